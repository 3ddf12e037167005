/-! class and reference side by side in one heap -/
/-- what the class keeps of what was read last, and what the reference does -/
def eS (σ : rwT) (P : Pts) (Q : List Prm) : Prop := ctQ σ Q ∧ txH σ 34 (P 4) [] ∧ txH σ 41 (P 5 ++ P 6) []
abbrev eR : List Nat := [47, 49, 52, 54, 56, 58, 35, 37, 42, 44]
theorem eS_fr {σ σ' : rwT} {P : Pts} {Q : List Prm} (H : eS σ P Q) (h : ∀ τ ∈ eR, (σ' τ).2.2 = (σ τ).2.2) : eS σ' P Q := ⟨ctQ_same H.1 (fun τ hτ => h τ (by revert τ; decide)), txH_same H.2.1 (h 35 (by decide)) (h 37 (by decide)), txH_same H.2.2 (h 42 (by decide)) (h 44 (by decide))⟩
theorem eS_out {σ σ' : rwT} {P : Pts} {Q : List Prm} {ρs : List Nat} (H : eS σ P Q) (h : ∀ τ, τ ∉ ρs → (σ' τ).2.2 = (σ τ).2.2) (hd : ∀ τ ∈ eR, τ ∉ ρs) : eS σ' P Q := eS_fr H (fun τ hτ => h τ (hd τ hτ))
theorem eS_P {σ : rwT} {P P' : Pts} {Q : List Prm} (H : eS σ P Q) (h : ∀ w, 4 ≤ w → P' w = P w) : eS σ P' Q := ⟨H.1, by rw [h 4 (by decide)]; exact H.2.1, by rw [h 5 (by decide), h 6 (by decide)]; exact H.2.2⟩
def oC (cJ : ClassId) (X : Nat) (h : hp_T) : Prop := ∃ f : Nat → Int64, h.2.2 (X + 98) = some (.inl (cJ, 1, .inr (.inl f)))
def LI (cI cZ cJ : ClassId) (X : Nat) (h : hp_T) (σ : rwT) : Prop := ∃ (B T : List Int32) (F : Flds) (bd : Nat) (P : Pts) (gs : List Int32) (Q : List Prm) (hd ch : Option (List Int32)) (I : Nat → Int32) (R : Nat → Nat → Int32), (clS cI X h σ B T F bd ∧ obS X h) ∧ oC cJ X h ∧ mI B T F bd P gs Q hd ch I R ∧ mo_ov cI cZ h (X + 70) I R = h ∧ byS B T F ∧ eS σ P Q
/-- what one call may make -/
def bR (h : hp_T) (σ : rwT) (h' : hp_T) (σ' : rwT) : Prop := h'.1 + sumC σ rws ≤ h.1 + sumC σ' rws + 1 ∧ h'.2.1 + 2 * sumC σ rws ≤ h.2.1 + 2 * sumC σ' rws + 6
section BOTH
variable {G : gl_G} {cI cZ cJ : ClassId} {X : Nat} {B T : List Int32} {F : Flds} {bd : Nat} {P : Pts} {gs : List Int32} {Q : List Prm} {hd ch : Option (List Int32)} {I : Nat → Int32} {R : Nat → Nat → Int32}
theorem ov_ne {h : hp_T} {M q : Nat} (hq : q < M ∨ M + 27 < q) : (mo_ov cI cZ h M I R).2.2 q = h.2.2 q := by
  show (if q = M then _ else if M < q ∧ q ≤ M + 27 then _ else h.2.2 q) = _
  rw [if_neg (by omega), if_neg (by omega)]
theorem ov_M {h : hp_T} {M : Nat} (e : mo_ov cI cZ h M I R = h) : h.2.2 M = some (.inr (9, mo_obj M I)) := by
  rw [← e]; exact mo_self
theorem ov_of {h h1 : hp_T} {M : Nat} (e : mo_ov cI cZ h M I R = h) (hk : ∀ q, M ≤ q → q ≤ M + 27 → h1.2.2 q = h.2.2 q) : mo_ov cI cZ h1 M I R = h1 := by
  refine Prod.ext rfl (Prod.ext rfl (funext fun q => ?_))
  by_cases hq : M ≤ q ∧ q ≤ M + 27
  · rw [hk q hq.1 hq.2]
    have h2 : (mo_ov cI cZ h M I R).2.2 q = h.2.2 q := congrArg (fun z : hp_T => z.2.2 q) e
    rw [← h2]
    show (if q = M then _ else if M < q ∧ q ≤ M + 27 then _ else h1.2.2 q) = (if q = M then _ else if M < q ∧ q ≤ M + 27 then _ else h.2.2 q)
    by_cases q1 : q = M
    · rw [if_pos q1, if_pos q1]
    · have hh : M < q ∧ q ≤ M + 27 := by omega
      rw [if_neg q1, if_neg q1, if_pos hh, if_pos hh]
  · exact ov_ne (by omega)
theorem ov_ov {h : hp_T} {M : Nat} {I' : Nat → Int32} {R' : Nat → Nat → Int32} : mo_ov cI cZ (mo_ov cI cZ h M I R) M I' R' = mo_ov cI cZ h M I' R' := by
  refine Prod.ext rfl (Prod.ext rfl (funext fun q => ?_))
  by_cases hq : M ≤ q ∧ q ≤ M + 27
  · show (if q = M then _ else if M < q ∧ q ≤ M + 27 then _ else _) = (if q = M then _ else if M < q ∧ q ≤ M + 27 then _ else _)
    by_cases q1 : q = M
    · rw [if_pos q1, if_pos q1]
    · have hh : M < q ∧ q ≤ M + 27 := by omega
      rw [if_neg q1, if_neg q1, if_pos hh, if_pos hh]
  · rw [ov_ne (by omega), ov_ne (by omega), ov_ne (by omega)]
/-- the class's cells alone say what it holds -/
theorem tS_eq {h h' : hp_T} {σ : rwT} (S : tS cI X h σ) (hle : h.1 ≤ h'.1) (hq : ∀ q, (q ≤ X + 69 ∨ X + 99 ≤ q) → q < h.1 → h'.2.2 q = h.2.2 q) : tS cI X h' σ := by
  have hX := S.1.2.2
  refine ⟨⟨fun ρ hρ => ?_, S.1.2.1, by omega⟩, fun t ht => ?_⟩
  · obtain ⟨⟨g1, f, g2, g3⟩, g4, g5, g6⟩ := S.1.1 ρ hρ
    have hlt := rws_lt ρ hρ
    exact ⟨⟨by rw [hq _ (by omega) (by omega)]; exact g1, f, by rw [hq _ g5 g6]; exact g2, g3⟩, g4, g5, by omega⟩
  · have := (txs_in t ht).2.2.2
    rw [hq _ (by omega) (by omega)]; exact S.2 t ht
theorem clS_eq {h h' : hp_T} {σ : rwT} (C : clS cI X h σ B T F bd) (hle : h.1 ≤ h'.1) (hq : ∀ q, (q ≤ X + 69 ∨ X + 99 ≤ q) → q < h.1 → h'.2.2 q = h.2.2 q) : clS cI X h' σ B T F bd := by
  obtain ⟨S, H, C3, C4, ⟨f5, C5, C6⟩, C7, C8, C9⟩ := C
  have hX := S.1.2.2
  exact ⟨tS_eq S hle hq, ⟨by rw [hq _ (by omega) (by omega)]; exact H.1, H.2⟩, C3, by rw [hq _ (by omega) (by omega)]; exact C4, ⟨f5, by rw [hq _ (by omega) (by omega)]; exact C5, C6⟩, C7, C8, C9⟩
theorem obS_eq {h h' : hp_T} (O : obS X h) (hX : X + 99 ≤ h.1) (hq : ∀ q, (q ≤ X + 69 ∨ X + 99 ≤ q) → q < h.1 → h'.2.2 q = h.2.2 q) : obS X h' := by
  obtain ⟨⟨a, b, c, O1⟩, ⟨a2, b2, c2, O2⟩, O3, ⟨a4, O4⟩, O5⟩ := O
  exact ⟨⟨a, b, c, by rw [hq _ (by omega) (by omega)]; exact O1⟩, ⟨a2, b2, c2, by rw [hq _ (by omega) (by omega)]; exact O2⟩, by rw [hq _ (by omega) (by omega)]; exact O3, ⟨a4, by rw [hq _ (by omega) (by omega)]; exact O4⟩, by rw [hq _ (by omega) (by omega)]; exact O5⟩
/-- the reference's cells, and the answer's, are none of the class's -/
theorem kR_mid {L : List Nat} {h h' : hp_T} {σ σ' : rwT} (S : tS cI X h σ) (k : kR L X h σ h' σ') (hL : ∀ q ∈ L, q ≤ X + 69) {q : Nat} (q1 : X + 70 ≤ q) (q2 : q ≤ X + 98) : h'.2.2 q = h.2.2 q := by
  have hX := S.1.2.2
  refine k.2.2.2.2.1 q (by omega) (fun z => ?_) (fun ρ hρ z => ?_) (fun ρ hρ z => ?_)
  · have := hL q z; omega
  · have := (rws_lt ρ hρ).2; omega
  · have := (S.1.1 ρ hρ).2.2.1; omega
theorem mid_oC {h h' : hp_T} (o : oC cJ X h) (hk : ∀ q, X + 70 ≤ q → q ≤ X + 98 → h'.2.2 q = h.2.2 q) : oC cJ X h' := by
  obtain ⟨f, hf⟩ := o
  exact ⟨f, by rw [hk _ (by omega) (by omega)]; exact hf⟩
theorem mid_ov {h h' : hp_T} (e : mo_ov cI cZ h (X + 70) I R = h) (hk : ∀ q, X + 70 ≤ q → q ≤ X + 98 → h'.2.2 q = h.2.2 q) : mo_ov cI cZ h' (X + 70) I R = h' := ov_of e (fun q q1 q2 => hk q q1 (by omega))
/-- behind a call of the reference -/
theorem ref_LI {h h' : hp_T} {σ : rwT} (C : clS cI X h σ B T F bd) (O : obS X h) (o : oC cJ X h) (hy : byS B T F) (he : eS σ P Q) (H : mH cI cZ h (X + 70) (mI B T F bd P gs Q hd ch) h') : LI cI cZ cJ X h' σ ∧ h'.1 = h.1 ∧ h'.2.1 = h.2.1 := by
  obtain ⟨I', R', rfl, H⟩ := H
  have hX := C.1.1.2.2
  have hq : ∀ q, (q ≤ X + 69 ∨ X + 99 ≤ q) → q < h.1 → (mo_ov cI cZ h (X + 70) I' R').2.2 q = h.2.2 q := fun q q1 _ => ov_ne (by omega)
  obtain ⟨f, hf⟩ := o
  exact ⟨⟨B, T, F, bd, P, gs, Q, hd, ch, I', R', ⟨clS_eq C (Nat.le_refl _) hq, obS_eq O hX hq⟩, ⟨f, by rw [ov_ne (by omega)]; exact hf⟩, H, ov_ov, hy, he⟩, rfl, rfl⟩
theorem bR_of {L : List Nat} {h h' h2 : hp_T} {σ σ' : rwT} (k : kR L X h σ h' σ') (e : h2.1 = h'.1 ∧ h2.2.1 = h'.2.1) : bR h σ h2 σ' := by
  obtain ⟨-, -, k3, k4, -⟩ := k
  exact ⟨by rw [e.1]; omega, by rw [e.2]; omega⟩
theorem bR_rf {h h2 : hp_T} {σ : rwT} (e : h2.1 = h.1 ∧ h2.2.1 = h.2.1) : bR h σ h2 σ := ⟨by rw [e.1]; omega, by rw [e.2]; omega⟩
theorem mO_mid : ∀ q ∈ mO X, q ≤ X + 69 := by
  intro q hq
  simp [mO] at hq
  omega
theorem mQ_mid : ∀ q ∈ mQ X, q ≤ X + 69 := by
  intro q hq
  simp [mQ] at hq
  omega
theorem mA_mid : ∀ q ∈ mA X, q ≤ X + 69 := by
  intro q hq
  simp [mA] at hq
  omega
theorem clP_Q {h h' : hp_T} {σ : rwT} {B2 T2 : List Int32} {F2 : Flds} {bd2 : Nat} (C : clS cI X h σ B T F bd) (O : obS X h) (p : clP cI X h σ B2 T2 F2 bd2 h') : clQ cI X h σ [2, 6, 8] B2 T2 F2 bd2 h' := by
  obtain ⟨σ', C', k, fr⟩ := p
  exact ⟨σ', ⟨C', obS_go C.1 k O (by simp [mO]) (by simp [mO]) (Or.inl (by simp [mO])) (Or.inl (by simp [mO])) (Or.inl (by simp [mO]))⟩, kR_sub k (by simp [mO, mQ]), fr⟩
theorem sumC_le {σ : rwT} : ∀ {l : List Nat}, (∀ ρ ∈ l, (σ ρ).2.1 ≤ 4096) → sumC σ l ≤ 4096 * l.length
  | [], _ => Nat.le_refl _
  | τ :: l, h => by
    have h1 := h τ List.mem_cons_self
    have h2 := sumC_le (σ := σ) (l := l) (fun ρ hρ => h ρ (List.mem_cons_of_mem _ hρ))
    simp only [sumC, List.length_cons]
    omega
theorem LI_sum {h : hp_T} {σ : rwT} (L0 : LI cI cZ cJ X h σ) : sumC σ rws ≤ 106496 := by
  obtain ⟨B, T, F, bd, P, gs, Q, hd, ch, I, R, ⟨C, O⟩, -⟩ := L0
  refine sumC_le (σ := σ) (l := rws) (fun ρ hρ => ?_)
  obtain ⟨-, ⟨k, hk, e⟩, -⟩ := C.1.1.1 ρ hρ
  have : 2 ^ k ≤ 2 ^ 8 := Nat.pow_le_pow_right (by decide) hk
  rw [e]
  have e2 : (2 : Nat) ^ 8 = 256 := by decide
  omega
theorem q_lt {L i : Nat} (h : L < i + 6) (hL : L < 2 ^ 30) (hi : i < 2 ^ 31) : nI L - nI 6 < nI i := by
  rcases Nat.lt_or_ge L 6 with q | q
  · have h1 : nI L - nI 6 < 0 := pk_sneg (by decide) q
    exact Int32.lt_of_lt_of_le h1 (nI_pos' (by omega))
  · have e : nI L = nI (L - 6) + nI 6 := by rw [nI_add, Nat.sub_add_cancel q]
    rw [e, Int32.add_sub_cancel]
    exact nI_lt (by omega) (by omega)
end BOTH
/-! the beginning -/
def sg0 (X : Nat) : rwT := fun ρ => (X + ρ + 1, 16, if ρ ∈ bnds then [0] else [])
section BEGIN
variable {cI cZ cJ : ClassId} {X str : Nat} {h : hp_T}
theorem new_tS (F : fr cI str X h) (hX : X + 99 ≤ h.1) : tS cI X h (sg0 X) := by
  have tx : ∀ t : Nat, t ∈ txs → tx_at cI h (X + t) (X + t + 1) (X + t + 2) 16 [] (X + t + 3) (X + t + 4) 16 [0] := by
    intro t ht
    rcases (show t = 5 ∨ t = 11 ∨ t = 19 ∨ t = 26 ∨ t = 34 ∨ t = 41 ∨ t = 46 ∨ t = 51 ∨ t = 60 ∨ t = 65 by simpa [txs] using ht) with rfl | rfl | rfl | rfl | rfl | rfl | rfl | rfl | rfl | rfl
    · exact fr_tx (F.1 5 (by decide)) (F.1 6 (by decide)) (F.1 7 (by decide)) (F.1 8 (by decide)) (F.1 9 (by decide))
    · exact fr_tx (F.1 11 (by decide)) (F.1 12 (by decide)) (F.1 13 (by decide)) (F.1 14 (by decide)) (F.1 15 (by decide))
    · exact fr_tx (F.1 19 (by decide)) (F.1 20 (by decide)) (F.1 21 (by decide)) (F.1 22 (by decide)) (F.1 23 (by decide))
    · exact fr_tx (F.1 26 (by decide)) (F.1 27 (by decide)) (F.1 28 (by decide)) (F.1 29 (by decide)) (F.1 30 (by decide))
    · exact fr_tx (F.1 34 (by decide)) (F.1 35 (by decide)) (F.1 36 (by decide)) (F.1 37 (by decide)) (F.1 38 (by decide))
    · exact fr_tx (F.1 41 (by decide)) (F.1 42 (by decide)) (F.1 43 (by decide)) (F.1 44 (by decide)) (F.1 45 (by decide))
    · exact fr_tx (F.1 46 (by decide)) (F.1 47 (by decide)) (F.1 48 (by decide)) (F.1 49 (by decide)) (F.1 50 (by decide))
    · exact fr_tx (F.1 51 (by decide)) (F.1 52 (by decide)) (F.1 53 (by decide)) (F.1 54 (by decide)) (F.1 55 (by decide))
    · exact fr_tx (F.1 60 (by decide)) (F.1 61 (by decide)) (F.1 62 (by decide)) (F.1 63 (by decide)) (F.1 64 (by decide))
    · exact fr_tx (F.1 65 (by decide)) (F.1 66 (by decide)) (F.1 67 (by decide)) (F.1 68 (by decide)) (F.1 69 (by decide))
  have rw1 : ∀ ρ ∈ rws, rw_at cI h (X + ρ) (X + ρ + 1) 16 (if ρ ∈ bnds then [0] else []) := by
    intro ρ hρ
    rcases (show (ρ = 2 ∨ ρ = 16 ∨ ρ = 24 ∨ ρ = 31 ∨ ρ = 56 ∨ ρ = 58) ∨ (∃ t ∈ txs, ρ = t + 1) ∨ ∃ t ∈ txs, ρ = t + 3 by revert ρ; decide) with q | ⟨t, ht, rfl⟩ | ⟨t, ht, rfl⟩
    · rcases q with rfl | rfl | rfl | rfl | rfl | rfl
      · exact fr_rw (F.1 2 (by decide)) (F.1 3 (by decide))
      · exact fr_rw (F.1 16 (by decide)) (F.1 17 (by decide))
      · exact fr_rw (F.1 24 (by decide)) (F.1 25 (by decide))
      · exact fr_rw (F.1 31 (by decide)) (F.1 32 (by decide))
      · exact fr_rw (F.1 56 (by decide)) (F.1 57 (by decide))
      · exact fr_rw (F.1 58 (by decide)) (F.1 59 (by decide))
    · rw [if_neg (by revert t; decide)]
      exact (tx t ht).2.1
    · rw [if_pos (by revert t; decide)]
      exact (tx t ht).2.2
  refine ⟨⟨fun ρ hρ => ?_, ⟨fun ρ hρ τ hτ e => ?_, fun ρ hρ => ?_⟩, hX⟩, fun t ht => (tx t ht).1⟩
  · have hlt := rws_lt ρ hρ
    refine ⟨rw1 ρ hρ, ⟨0, by decide, rfl⟩, Or.inl ?_, ?_⟩
    · show X + ρ + 1 ≤ X + 69; omega
    · show X + ρ + 1 < h.1; omega
  · have e' : X + ρ + 1 = X + τ + 1 := e
    omega
  · show (if ρ ∈ bnds then [0] else ([] : List Int32)).take 1 = [nI 0]
    rw [if_pos hρ]
    rfl
theorem new_rdy : ∀ j, j < 20 → by8 0 (nI (j % 4)) = (List.replicate 20 (0 : Int32)).getD j 0 := by decide +kernel
theorem new_eS : eS (sg0 X) (fun _ => []) [] := ⟨⟨⟨rfl, rfl⟩, ⟨rfl, rfl⟩, rfl, rfl⟩, ⟨rfl, rfl⟩, ⟨rfl, rfl⟩⟩
theorem new_clS (F : fr cI str X h) (hX : X + 99 ≤ h.1) : clS cI X h (sg0 X) (List.replicate 20 0) [] [] 0 ∧ obS X h := by
  refine ⟨⟨new_tS F hX, ⟨fr_head F, rfl, rfl, (fun z => by cases z), by decide⟩, by decide, fr_X F, ⟨_, fr_ready F, new_rdy⟩, fun ρ hρ z => ?_, rfl, by decide⟩, ⟨⟨_, _, _, F.1 10 (by decide)⟩, ⟨_, _, _, fr_adr F⟩, fr_idn F, ⟨_, F.1 39 (by decide)⟩, fr_ctt F⟩⟩
  have hlt := rws_lt ρ hρ
  have z' : X + ρ + 1 = X + 1 := z
  omega
end BEGIN
