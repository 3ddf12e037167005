/-! the class: its rows, all of them, side by side -/
/-- where the rows of an object stand -/
def rws : List Nat := [2, 6, 8, 12, 14, 16, 20, 22, 24, 27, 29, 31, 35, 37, 42, 44, 47, 49, 52, 54, 56, 58, 61, 63, 66, 68]
/-- the rows that hold bounds: their first number stands for good -/
def bnds : List Nat := [8, 14, 22, 29, 37, 44, 49, 54, 63, 68]
/-- of each row: where its array lies, how long that is, what it holds -/
abbrev rwT : Type := Nat → Nat × Nat × List Int32
def sumC (σ : rwT) : List Nat → Nat
  | [] => 0
  | ρ :: l => (σ ρ).2.1 + sumC σ l
def rwU (σ : rwT) (ρ : Nat) (v : Nat × Nat × List Int32) : rwT := fun τ => if τ = ρ then v else σ τ
theorem rwU_at (σ : rwT) (ρ : Nat) (v : Nat × Nat × List Int32) : rwU σ ρ v ρ = v := if_pos rfl
theorem rwU_ne {σ : rwT} {ρ τ : Nat} {v : Nat × Nat × List Int32} (h : τ ≠ ρ) : rwU σ ρ v τ = σ τ := if_neg h
theorem sumC_out {σ : rwT} {ρ : Nat} {v : Nat × Nat × List Int32} : ∀ {l : List Nat}, ρ ∉ l → sumC (rwU σ ρ v) l = sumC σ l
  | [], _ => rfl
  | τ :: l, h => by
    have h1 : τ ≠ ρ := fun z => h (z ▸ List.mem_cons_self)
    have h2 := sumC_out (σ := σ) (v := v) (l := l) (fun z => h (List.mem_cons_of_mem _ z))
    simp only [sumC, rwU_ne h1, h2]
theorem sumC_up {σ : rwT} {ρ : Nat} {v : Nat × Nat × List Int32} : ∀ {l : List Nat}, l.Nodup → ρ ∈ l → sumC (rwU σ ρ v) l + (σ ρ).2.1 = sumC σ l + v.2.1
  | [], _, h => by cases h
  | τ :: l, hn, h => by
    obtain ⟨hn1, hn2⟩ := List.nodup_cons.mp hn
    by_cases e : τ = ρ
    · subst e
      have := sumC_out (σ := σ) (v := v) hn1
      simp only [sumC, rwU_at, this]
      omega
    · have h2 : ρ ∈ l := by
        rcases List.mem_cons.mp h with q | q
        · exact absurd q.symm e
        · exact q
      have := sumC_up (σ := σ) (v := v) hn2 h2
      simp only [sumC, rwU_ne e]
      omega
theorem rws_nd : rws.Nodup := by decide
theorem rws_lt : ∀ ρ ∈ rws, 2 ≤ ρ ∧ ρ ≤ 68 := by decide
/-- the rows stand as σ says; their arrays are apart, and none lies where the reference does -/
def rwS (cI : ClassId) (X : Nat) (h : hp_T) (σ : rwT) : Prop := (∀ ρ ∈ rws, rw_at cI h (X + ρ) (σ ρ).1 (σ ρ).2.1 (σ ρ).2.2 ∧ (∃ k, k ≤ 8 ∧ (σ ρ).2.1 = 16 * 2 ^ k) ∧ ((σ ρ).1 ≤ X + 69 ∨ X + 99 ≤ (σ ρ).1) ∧ (σ ρ).1 < h.1) ∧ ((∀ ρ ∈ rws, ∀ τ ∈ rws, (σ ρ).1 = (σ τ).1 → ρ = τ) ∧ ∀ ρ ∈ bnds, (σ ρ).2.2.take 1 = [nI 0]) ∧ X + 99 ≤ h.1
/-- what was made from h to h' is paid by what the rows grew; nothing else has changed -/
def rwR (X : Nat) (h : hp_T) (σ : rwT) (h' : hp_T) (σ' : rwT) : Prop := h.1 ≤ h'.1 ∧ h.2.1 ≤ h'.2.1 ∧ h'.1 + sumC σ rws ≤ h.1 + sumC σ' rws ∧ h'.2.1 + 2 * sumC σ rws ≤ h.2.1 + 2 * sumC σ' rws ∧ (∀ q, q < h.1 → (∀ ρ ∈ rws, q ≠ X + ρ) → (∀ ρ ∈ rws, q ≠ (σ ρ).1) → h'.2.2 q = h.2.2 q) ∧ ∀ ρ ∈ rws, (σ' ρ).1 = (σ ρ).1 ∨ h.1 ≤ (σ' ρ).1
theorem rwR_rf {X : Nat} {h : hp_T} {σ : rwT} : rwR X h σ h σ := ⟨Nat.le_refl _, Nat.le_refl _, Nat.le_refl _, Nat.le_refl _, fun _ _ _ _ => rfl, fun _ _ => Or.inl rfl⟩
theorem rwR_tr {X : Nat} {h1 h2 h3 : hp_T} {σ1 σ2 σ3 : rwT} (a : rwR X h1 σ1 h2 σ2) (b : rwR X h2 σ2 h3 σ3) : rwR X h1 σ1 h3 σ3 := by
  obtain ⟨a1, a2, a3, a4, a5, a6⟩ := a
  obtain ⟨b1, b2, b3, b4, b5, b6⟩ := b
  refine ⟨by omega, by omega, by omega, by omega, fun q q1 q2 q3 => ?_, fun ρ hρ => ?_⟩
  · rw [b5 q (by omega) q2 (fun ρ hρ => ?_), a5 q q1 q2 q3]
    rcases a6 ρ hρ with e | e
    · rw [e]; exact q3 ρ hρ
    · omega
  · rcases b6 ρ hρ with e | e
    · rcases a6 ρ hρ with e2 | e2
      · left; rw [e, e2]
      · right; rw [e]; exact e2
    · right; omega
section ROWS
variable {G : gl_G} {cI : ClassId} {h : hp_T} {X : Nat} {σ : rwT}
/-- a row is no array -/
theorem rwS_oa (S : rwS cI X h σ) {ρ τ : Nat} (hρ : ρ ∈ rws) (hτ : τ ∈ rws) : X + ρ ≠ (σ τ).1 := fun z => by
  obtain ⟨h1, -⟩ := (S.1 ρ hρ).1
  obtain ⟨-, f, h2, -⟩ := (S.1 τ hτ).1
  rw [z, h2] at h1
  cases h1
/-- a row's two cells may change, and its array's place to a new one -/
theorem rwS_set {h' : hp_T} (S : rwS cI X h σ) {ρ c' cap' : Nat} {xs' : List Int32} (hρ : ρ ∈ rws) (h1 : rw_at cI h' (X + ρ) c' cap' xs') (hk : ∃ k, k ≤ 8 ∧ cap' = 16 * 2 ^ k) (hle : h.1 ≤ h'.1) (hc : c' = (σ ρ).1 ∨ c' = h.1 ∧ h.1 < h'.1) (hfr : ∀ q, q ≠ X + ρ → q ≠ (σ ρ).1 → q ≠ h.1 → h'.2.2 q = h.2.2 q) (hb : ρ ∈ bnds → xs'.take 1 = [nI 0]) : rwS cI X h' (rwU σ ρ (c', cap', xs')) := by
  obtain ⟨S1, ⟨S2, S4⟩, S3⟩ := S
  have S0 : rwS cI X h σ := ⟨S1, ⟨S2, S4⟩, S3⟩
  refine ⟨fun τ hτ => ?_, ⟨fun τ hτ υ hυ e => ?_, fun τ hτ => ?_⟩, by omega⟩
  · by_cases e : τ = ρ
    · subst e
      rw [rwU_at]
      refine ⟨h1, hk, ?_, ?_⟩
      · rcases hc with z | ⟨z, -⟩
        · show c' ≤ _ ∨ _ ≤ c'; rw [z]; exact (S1 τ hτ).2.2.1
        · show c' ≤ _ ∨ _ ≤ c'; rw [z]; exact Or.inr S3
      · rcases hc with z | ⟨z, z2⟩
        · show c' < _; rw [z]; have := (S1 τ hτ).2.2.2; omega
        · show c' < _; rw [z]; exact z2
    · rw [rwU_ne e]
      obtain ⟨⟨g1, f, g2, g3⟩, g4, g5, g6⟩ := S1 τ hτ
      have hlt := rws_lt τ hτ
      refine ⟨⟨?_, f, ?_, g3⟩, g4, g5, by omega⟩
      · rw [hfr (X + τ) (by omega) (rwS_oa S0 hτ hρ) (by omega)]; exact g1
      · rw [hfr (σ τ).1 (Ne.symm (rwS_oa S0 hρ hτ)) (fun z => e (S2 τ hτ ρ hρ z)) (by omega)]; exact g2
  · by_cases e1 : τ = ρ
    · by_cases e2 : υ = ρ
      · rw [e1, e2]
      · rw [e1, rwU_at, rwU_ne e2] at e
        rcases hc with z | ⟨z, -⟩
        · exact e1.trans (S2 ρ hρ υ hυ (z.symm.trans e))
        · have e' : c' = (σ υ).1 := e
          have := (S1 υ hυ).2.2.2
          omega
    · by_cases e2 : υ = ρ
      · rw [e2, rwU_at, rwU_ne e1] at e
        have e' : (σ τ).1 = c' := e
        rcases hc with z | ⟨z, -⟩
        · exact (S2 τ hτ ρ hρ (e'.trans z)).trans e2.symm
        · have := (S1 τ hτ).2.2.2
          omega
      · rw [rwU_ne e1, rwU_ne e2] at e
        exact S2 τ hτ υ hυ e
  · by_cases e : τ = ρ
    · subst e; rw [rwU_at]; exact hb hτ
    · rw [rwU_ne e]; exact S4 τ hτ
theorem w_size (S : rwS cI X h σ) {ρ : Nat} (hρ : ρ ∈ rws) : ct_E G m_Row_size [.ref (X + ρ)] h (cv (.int (nI (σ ρ).2.2.length)) h) := c_Row_size (x := .null) (S.1 ρ hρ).1.1
theorem w_get (hT : (gl_t G)[0]? = some (cI, .int)) (S : rwS cI X h σ) {ρ : Nat} (hρ : ρ ∈ rws) (i : Int32) : ct_E G m_Row_get [.ref (X + ρ), .int i] h (cv (.int (rg (σ ρ).2.2 i)) h) := c_Row_get hT (S.1 ρ hρ).1 i
/-- what add makes of a row -/
def addR (xs : List Int32) (x : Int32) : List Int32 := if xs.length < 4096 then xs ++ [x] else xs
theorem w_add (hT : (gl_t G)[0]? = some (cI, .int)) (S : rwS cI X h σ) {ρ : Nat} (hρ : ρ ∈ rws) (x : Int32) : ct_E G m_Row_add [.ref (X + ρ), .int x] h (cn (fun h' => ∃ c' cap', rwS cI X h' (rwU σ ρ (c', cap', addR (σ ρ).2.2 x)) ∧ rwR X h σ h' (rwU σ ρ (c', cap', addR (σ ρ).2.2 x)))) := by
  obtain ⟨g1, ⟨k, hk, hcap⟩, g3, g4⟩ := S.1 ρ hρ
  have hlt := rws_lt ρ hρ
  have hX := S.2.2
  have hp : 2 ^ k ≤ 256 := by
    have : 2 ^ k ≤ 2 ^ 8 := Nat.pow_le_pow_right (by decide) hk
    exact this
  have hp1 : 1 ≤ 2 ^ k := Nat.one_le_two_pow
  have hle : (σ ρ).2.2.length ≤ (σ ρ).2.1 := by obtain ⟨-, f, -, q, -⟩ := g1; exact q
  by_cases hfull : (σ ρ).2.2.length < 4096
  · refine ct_to (c_Row_add hT g1 x (by omega) g4 hfull (fun e => ?_)) ?_
    · have hk8 : k ≠ 8 := fun z => by subst z; omega
      have : 2 ^ (k + 1) ≤ 2 ^ 8 := Nat.pow_le_pow_right (by decide) (by omega)
      rw [Nat.pow_succ] at this
      omega
    · rintro o h' ⟨rfl, c', cap', q1, q2, q3⟩
      have ea : addR (σ ρ).2.2 x = (σ ρ).2.2 ++ [x] := if_pos hfull
      refine ⟨rfl, c', cap', ?_, ?_⟩
      · refine rwS_set S hρ (by rw [ea]; exact q1) ?_ ?_ ?_ q3 ?_
        · rcases q2 with ⟨-, z, -⟩ | ⟨e, -, z, -⟩
          · exact ⟨k, hk, by rw [z]; exact hcap⟩
          · have hk8 : k ≠ 8 := fun w => by subst w; omega
            exact ⟨k + 1, by omega, by rw [z, hcap, Nat.pow_succ]; omega⟩
        · rcases q2 with ⟨-, -, z, -⟩ | ⟨-, -, -, z, -⟩ <;> omega
        · rcases q2 with ⟨z, -⟩ | ⟨-, z, -, z2, -⟩
          · exact Or.inl z
          · exact Or.inr ⟨z, by omega⟩
        · intro hβ
          have h4 := S.2.1.2 ρ hβ
          rw [ea]
          cases hx : (σ ρ).2.2 with
          | nil => rw [hx] at h4; cases h4
          | cons y l => rw [hx] at h4; simpa using h4
      · have hsum := sumC_up (σ := σ) (ρ := ρ) (v := (c', cap', addR (σ ρ).2.2 x)) rws_nd hρ
        have hsum' : sumC (rwU σ ρ (c', cap', addR (σ ρ).2.2 x)) rws + (σ ρ).2.1 = sumC σ rws + cap' := hsum
        refine ⟨?_, ?_, ?_, ?_, fun q z1 z2 z3 => q3 q (z2 ρ hρ) (z3 ρ hρ) (by omega), fun τ hτ => ?_⟩
        · rcases q2 with ⟨-, -, z, -⟩ | ⟨-, -, -, z, -⟩ <;> omega
        · rcases q2 with ⟨-, -, -, z⟩ | ⟨-, -, -, -, z⟩ <;> omega
        · rcases q2 with ⟨-, z1, z2, -⟩ | ⟨-, -, z1, z2, -⟩ <;> omega
        · rcases q2 with ⟨-, z1, -, z2⟩ | ⟨-, -, z1, -, z2⟩ <;> omega
        · by_cases e : τ = ρ
          · subst e
            rw [rwU_at]
            rcases q2 with ⟨z, -⟩ | ⟨-, z, -⟩
            · exact Or.inl z
            · exact Or.inr (Nat.le_of_eq z.symm)
          · rw [rwU_ne e]; exact Or.inl rfl
  · have ea : addR (σ ρ).2.2 x = (σ ρ).2.2 := if_neg hfull
    have eσ : rwU σ ρ ((σ ρ).1, (σ ρ).2.1, (σ ρ).2.2) = σ := by
      funext τ
      by_cases e : τ = ρ
      · subst e; exact rwU_at _ _ _
      · exact rwU_ne e
    refine ct_of (ws' := tb_all) rfl rfl (Nat.le_of_ble_eq_true rfl) ?_
    refine ev_aload_n d_Row_add_0 rfl rfl ?_
    refine ev_get (fa_Row_15 rfl rfl) d_Row_add_1 g1.1 rfl ?_
    refine ev_sipush (v := 4096) d_Row_add_4 (by decide) ?_
    refine ev_icmp_lt (tgt := 11) d_Row_add_7 (by decide) (fun c_7 => absurd ((nI_ltI (a := (σ ρ).2.2.length) (b := 4096) (by omega) (by omega)).mp c_7) hfull) (fun _ => ?_)
    refine ev_vret d_Row_add_10 rfl ?_
    refine ⟨rfl, (σ ρ).1, (σ ρ).2.1, ?_, ?_⟩
    · rw [ea, eσ]; exact S
    · rw [ea, eσ]; exact rwR_rf
/-- cutTo -/
def cutR (xs : List Int32) (i : Int32) : List Int32 := if i < 0 then xs else xs.take i.toNatClampNeg
theorem w_cutTo (S : rwS cI X h σ) {ρ : Nat} (hρ : ρ ∈ rws) (i : Int32) (hi : ρ ∈ bnds → i ≠ 0) : ct_E G m_Row_cutTo [.ref (X + ρ), .int i] h (cn (fun h' => rwS cI X h' (rwU σ ρ ((σ ρ).1, (σ ρ).2.1, cutR (σ ρ).2.2 i)) ∧ rwR X h σ h' (rwU σ ρ ((σ ρ).1, (σ ρ).2.1, cutR (σ ρ).2.2 i)))) := by
  obtain ⟨g1, g2, g3, g4⟩ := S.1 ρ hρ
  have eσ : rwU σ ρ ((σ ρ).1, (σ ρ).2.1, (σ ρ).2.2) = σ := by
    funext τ
    by_cases e : τ = ρ
    · subst e; exact rwU_at _ _ _
    · exact rwU_ne e
  obtain ⟨a1, f, a2, a3, a4, a5⟩ := id g1
  refine ct_to (c_Row_cutTo g1 i) ?_
  rintro o h' ⟨rfl, q⟩
  rcases q with ⟨q1, rfl⟩ | ⟨j, q1, rfl, rfl⟩
  · have e : cutR (σ ρ).2.2 i = (σ ρ).2.2 := by
      unfold cutR
      by_cases hi : i < 0
      · rw [if_pos hi]
      · rw [if_neg hi]
        obtain ⟨j, hj, rfl⟩ := nI_of hi
        have := (nI_leI (by omega) hj).mp (q1.resolve_left hi)
        rw [nI_clamp hj]
        exact List.take_of_length_le this
    rw [e, eσ]
    exact ⟨rfl, S, rwR_rf⟩
  · have e : cutR (σ ρ).2.2 (nI j) = (σ ρ).2.2.take j := by
      unfold cutR
      rw [if_neg (nI_pos (by omega)), nI_clamp (by omega)]
    have hne : (σ ρ).1 ≠ X + ρ := Ne.symm (rwS_oa S hρ hρ)
    have hl : ((σ ρ).2.2.take j).length = j := by rw [List.length_take]; omega
    refine ⟨rfl, ?_, ?_⟩
    · rw [e]
      refine rwS_set S hρ ⟨?_, f, ?_, by omega, a4, fun i hi => ?_⟩ g2 (Nat.le_refl _) (Or.inl rfl) (fun q q1 q2 q3 => hp_up_ne q1) (fun hβ => ?_)
      · rw [hp_up_self, hl]
      · rw [hp_up_ne hne]; exact a2
      · rw [hl] at hi
        rw [a5 i (by omega), List.getD_eq_getElem?_getD, List.getD_eq_getElem?_getD, List.getElem?_take, if_pos hi]
      · have hj : j ≠ 0 := fun z => hi hβ (by rw [z]; rfl)
        rw [List.take_take, Nat.min_eq_left (by omega)]
        exact S.2.1.2 ρ hβ
    · have hsum := sumC_up (σ := σ) (ρ := ρ) (v := ((σ ρ).1, (σ ρ).2.1, cutR (σ ρ).2.2 (nI j))) rws_nd hρ
      have hsum' : sumC (rwU σ ρ ((σ ρ).1, (σ ρ).2.1, cutR (σ ρ).2.2 (nI j))) rws + (σ ρ).2.1 = sumC σ rws + (σ ρ).2.1 := hsum
      refine ⟨Nat.le_refl _, Nat.le_refl _, ?_, ?_, fun q z1 z2 z3 => hp_up_ne (z2 ρ hρ), fun τ hτ => ?_⟩
      · show h.1 + _ ≤ _; omega
      · show h.2.1 + _ ≤ _; omega
      · by_cases e1 : τ = ρ
        · subst e1; rw [rwU_at]; exact Or.inl rfl
        · rw [rwU_ne e1]; exact Or.inl rfl
end ROWS
