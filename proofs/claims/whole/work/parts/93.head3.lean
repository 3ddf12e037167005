/-! the class: what the head holds -/
def bnA (o : Nat) : Flds → List Int32
  | [] => []
  | q :: t => nI (o + q.1.length) :: nI (o + q.1.length + q.2.length) :: bnA (o + q.1.length + q.2.length) t
/-- the bounds of the fields' texts -/
def bnF (F : Flds) : List Int32 := nI 0 :: bnA 0 F
theorem bnA_snoc : ∀ (F : Flds) (o : Nat) (q : List Int32 × List Int32), bnA o (F ++ [q]) = bnA o F ++ [nI (o + (fK F).length + q.1.length), nI (o + (fK F).length + q.1.length + q.2.length)]
  | [], o, q => by simp [bnA, fK]
  | x :: F, o, q => by
    have e : (fK (x :: F)).length = x.1.length + x.2.length + (fK F).length := by
      show ((x.1 ++ x.2) ++ fK F).length = _
      rw [List.length_append, List.length_append]
    rw [List.cons_append, bnA, bnA, bnA_snoc F, e, show o + x.1.length + x.2.length + (fK F).length = o + (x.1.length + x.2.length + (fK F).length) by omega]
    rfl
theorem bnF_snoc (F : Flds) (q : List Int32 × List Int32) : bnF (F ++ [q]) = bnF F ++ [nI ((fK F).length + q.1.length), nI ((fK F).length + q.1.length + q.2.length)] := by
  unfold bnF
  rw [bnA_snoc, Nat.zero_add]
  rfl
theorem bnF_len (F : Flds) : (bnF F).length = 2 * F.length + 1 := by
  have : ∀ (F : Flds) (o : Nat), (bnA o F).length = 2 * F.length := by
    intro F
    induction F with
    | nil => intro o; rfl
    | cons x F ih => intro o; simp only [bnA, List.length_cons, ih]; omega
  simp [bnF, this]
/-- the bounds that stand: of an open value the last is wanting -/
def hB (F : Flds) (g : Bool) : List Int32 := if g = true then (bnF F).dropLast else bnF F
theorem hB_open (F : Flds) (q : List Int32 × List Int32) : hB (F ++ [q]) true = bnF F ++ [nI ((fK F).length + q.1.length)] := by
  unfold hB
  rw [if_pos rfl, bnF_snoc, show [nI ((fK F).length + q.1.length), nI ((fK F).length + q.1.length + q.2.length)] = [nI ((fK F).length + q.1.length)] ++ [nI ((fK F).length + q.1.length + q.2.length)] from rfl, ← List.append_assoc, List.dropLast_concat]
theorem hB_close {F : Flds} (h : F ≠ []) : hB F true ++ [nI (fK F).length] = bnF F := by
  obtain ⟨F', q, rfl⟩ : ∃ F' q, F = F' ++ [q] := ⟨F.dropLast, F.getLast h, (List.dropLast_concat_getLast h).symm⟩
  rw [hB_open, bnF_snoc, fK_snoc]
  simp [Nat.add_assoc]
/-- the head at X + 4: the fields F, the value open or not, bd bad lines -/
def hS (X : Nat) (h : hp_T) (σ : rwT) (F : Flds) (g : Bool) (bd : Nat) : Prop := h.2.2 (X + 4) = some (.inr (2, [.ref (X + 5), .int (nI bd), .int (bI g)])) ∧ (σ 6).2.2 = fK F ∧ (σ 8).2.2 = hB F g ∧ (g = true → F ≠ []) ∧ F.length ≤ 40
def hP (cI : ClassId) (X : Nat) (h : hp_T) (σ : rwT) (F : Flds) (g : Bool) (bd : Nat) : hp_T → Prop := fun h' => ∃ σ', tS cI X h' σ' ∧ kR [X + 4] X h σ h' σ' ∧ (∀ τ, τ ∉ [6, 8] → (σ' τ).2.2 = (σ τ).2.2) ∧ hS X h' σ' F g bd
section HEAD3
variable {G : gl_G} {cI : ClassId} {h : hp_T} {X : Nat} {σ : rwT} {F : Flds} {g : Bool} {bd : Nat}
theorem hP_rf (S : tS cI X h σ) (H : hS X h σ F g bd) : hP cI X h σ F g bd h := ⟨σ, S, kR_rf, fun _ _ => rfl, H⟩
theorem hP_tr {h1 h' : hp_T} {σ1 : rwT} {F' : Flds} {g' : Bool} {bd' : Nat} (r : kR [X + 4] X h σ h1 σ1) (hs : ∀ τ, τ ∉ [6, 8] → (σ1 τ).2.2 = (σ τ).2.2) (p : hP cI X h1 σ1 F' g' bd' h') : hP cI X h σ F' g' bd' h' := by
  obtain ⟨σ', p1, p2, p3, p4⟩ := p
  exact ⟨σ', p1, kR_tr r p2, fun τ hτ => (p3 τ hτ).trans (hs τ hτ), p4⟩
theorem hB_len (hF : F.length ≤ 40) : (hB F g).length ≤ 81 := by
  have := bnF_len F
  unfold hB
  split
  · rw [List.length_dropLast]; omega
  · omega
theorem w_closeValue (hT : (gl_t G)[0]? = some (cI, .int)) (S : tS cI X h σ) (H : hS X h σ F g bd) : ct_E G m_Head_closeValue [.ref (X + 4)] h (cn (hP cI X h σ F false bd)) := by
  have m5 : (5 : Nat) ∈ txs := by decide
  have hX := S.1.2.2
  obtain ⟨H1, H2, H3, H4, H5⟩ := id H
  refine ct_of (ws' := tb_all) rfl rfl (Nat.le_of_ble_eq_true rfl) ?_
  refine ev_aload_n d_Head_closeValue_0 rfl rfl ?_
  refine ev_get (fa_Head_22 rfl rfl) d_Head_closeValue_1 H1 rfl ?_
  cases g with
  | false =>
    refine ev_if_eq (tgt := 19) d_Head_closeValue_4 (by decide) (fun _ => ?_) (fun z => absurd rfl z)
    refine ev_vret d_Head_closeValue_19 rfl ?_
    exact ⟨rfl, hP_rf S H⟩
  | true =>
    refine ev_if_eq (tgt := 19) d_Head_closeValue_4 (by decide) (fun z => absurd (show (1 : Int32) = 0 from z) (by decide)) (fun _ => ?_)
    refine ev_aload_n d_Head_closeValue_7 rfl rfl ?_
    refine ev_get (fa_Head_12 rfl rfl) d_Head_closeValue_8 H1 rfl ?_
    refine ev_Vn (ci := 3) [] [] ca_Head_closeValue_72 d_Head_closeValue_11 rfl ((S.2 5 m5)) rfl (Nat.le_of_ble_eq_true rfl) (w_close hT S m5) (fun h1 z => ?_)
    obtain ⟨σ1, S1, r1, p1, p2⟩ := z
    have hl := hB_len (g := true) H5
    have p2' : (σ1 8).2.2 = bnF F := by
      have : (σ1 8).2.2 = addR (σ 8).2.2 (nI (σ 6).2.2.length) := p2
      rw [this, H2, H3]
      unfold addR
      rw [if_pos (by omega)]
      exact hB_close (H4 rfl)
    have hA : h1.2.2 (X + 4) = some (.inr (2, [.ref (X + 5), .int (nI bd), .int (bI true)])) := rwR_obj S.1 r1 H1 (by omega) (nrow (by decide))
    refine ev_aload_n d_Head_closeValue_14 rfl rfl ?_
    refine ev_iconst (v := 0) d_Head_closeValue_15 (by decide) ?_
    refine ev_put (fp_Head_22 rfl rfl) d_Head_closeValue_16 hA (Nat.le_of_ble_eq_true rfl) rfl rfl ?_
    refine ev_vret d_Head_closeValue_19 rfl ?_
    refine ⟨rfl, σ1, tS_up S1 hA (by decide) (by decide), kR_tr (kR_of r1) (kR_up (List.mem_cons_self)), fun τ hτ => p1 τ (fun z => hτ (by simp at z; simp [z])), hp_up_self _ _ _, ?_, ?_, (fun z => by cases z), H5⟩
    · rw [p1 6 (by decide)]; exact H2
    · rw [p2']; rfl
theorem w_takeFolded (hT : (gl_t G)[0]? = some (cI, .int)) (S : tS cI X h σ) (H : hS X h σ F g bd) {s e : Nat} (hse : s ≤ e) (he : e ≤ (σ 2).2.2.length) (he2 : e ≤ 1500) (hbd : bd ≤ 1500) (hK : (fK F).length ≤ 1501) : ct_E G m_Head_takeFolded [.ref (X + 4), .ref (X + 2), .int (nI s), .int (nI e)] h (cn (fun h' => if g = true then hP cI X h σ (addLast F (((σ 2).2.2.take e).drop s)) true bd h' else hP cI X h σ F false (bd + 1) h')) := by
  have hX := S.1.2.2
  obtain ⟨H1, H2, H3, H4, H5⟩ := id H
  have hlen : (((σ 2).2.2.take e).drop s).length = e - s := by rw [List.length_drop, List.length_take]; omega
  refine ct_of (ws' := tb_all) rfl rfl (Nat.le_of_ble_eq_true rfl) ?_
  refine ev_aload_n d_Head_takeFolded_0 rfl rfl ?_
  refine ev_get (fa_Head_22 rfl rfl) d_Head_takeFolded_1 H1 rfl ?_
  cases g with
  | false =>
    refine ev_if_eq (tgt := 17) d_Head_takeFolded_4 (by decide) (fun _ => ?_) (fun z => absurd rfl z)
    refine ev_aload_n d_Head_takeFolded_17 rfl rfl ?_
    refine ev_dup d_Head_takeFolded_18 rfl ?_
    refine ev_get (fa_Head_18 rfl rfl) d_Head_takeFolded_19 H1 rfl ?_
    refine ev_iconst (v := 1) d_Head_takeFolded_22 (by decide) ?_
    refine ev_iadd d_Head_takeFolded_23 ?_
    rw [nI_1]
    refine ev_put (fp_Head_18 rfl rfl) d_Head_takeFolded_24 H1 (Nat.le_of_ble_eq_true rfl) rfl rfl ?_
    refine ev_vret d_Head_takeFolded_27 rfl ?_
    refine ⟨rfl, ?_⟩
    show hP cI X h σ F false (bd + 1) _
    exact ⟨σ, tS_up S H1 (by decide) (by decide), kR_up List.mem_cons_self, fun _ _ => rfl, hp_up_self _ _ _, H2, H3, H4, H5⟩
  | true =>
    refine ev_if_eq (tgt := 17) d_Head_takeFolded_4 (by decide) (fun z => absurd (show (1 : Int32) = 0 from z) (by decide)) (fun _ => ?_)
    refine ev_aload_n d_Head_takeFolded_7 rfl rfl ?_
    refine ev_aload_n d_Head_takeFolded_8 rfl rfl ?_
    refine ev_iload_n d_Head_takeFolded_9 rfl rfl ?_
    refine ev_iload_n d_Head_takeFolded_10 rfl rfl ?_
    refine ev_Vn (ci := 2) [.ref (X + 2), .int (nI s), .int (nI e)] [] ca_Head_takeFolded_69 d_Head_takeFolded_11 rfl (H1) rfl (Nat.le_of_ble_eq_true rfl) (w_hput hT S H1 hse he (by omega) (by rw [H2]; omega)) (fun h1 z => ?_)
    obtain ⟨σ1, S1, r1, p1, p2⟩ := z
    refine ev_goto (tgt := 27) d_Head_takeFolded_14 (by decide) ?_
    refine ev_vret d_Head_takeFolded_27 rfl ?_
    refine ⟨rfl, ?_⟩
    show hP cI X h σ (addLast F (((σ 2).2.2.take e).drop s)) true bd _
    obtain ⟨F', q, rfl⟩ : ∃ F' q, F = F' ++ [q] := ⟨F.dropLast, F.getLast (H4 rfl), (List.dropLast_concat_getLast (H4 rfl)).symm⟩
    rw [addLast_snoc]
    refine ⟨σ1, S1, kR_of r1, fun τ hτ => p1 τ (fun z => hτ (by simp at z; simp [z])), rwR_obj S.1 r1 H1 (by omega) (nrow (by decide)), ?_, ?_, fun _ => by simp, by simpa using H5⟩
    · rw [p2, H2, fK_snoc, fK_snoc]; simp
    · rw [p1 8 (by decide), H3, hB_open, hB_open]
end HEAD3
