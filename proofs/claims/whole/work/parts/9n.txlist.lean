/-! texts as a list of lists, strong -/
def bdL (o : Nat) : List (List Int32) → List Int32
  | [] => []
  | l :: r => nI (o + l.length) :: bdL (o + l.length) r
def bnT (Ls : List (List Int32)) : List Int32 := nI 0 :: bdL 0 Ls
/-- the texts Ls, and the open text op, stand in the rows t + 1 and t + 3 -/
def txH (σ : rwT) (t : Nat) (Ls : List (List Int32)) (op : List Int32) : Prop := (σ (t + 1)).2.2 = Ls.flatten ++ op ∧ (σ (t + 3)).2.2 = bnT Ls
theorem bdL_len : ∀ (Ls : List (List Int32)) (o : Nat), (bdL o Ls).length = Ls.length
  | [], _ => rfl
  | l :: r, o => by simp only [bdL, List.length_cons, bdL_len r]
theorem bnT_len (Ls : List (List Int32)) : (bnT Ls).length = Ls.length + 1 := by simp only [bnT, List.length_cons, bdL_len]
theorem bdL_snoc : ∀ (Ls : List (List Int32)) (o : Nat) (l : List Int32), bdL o (Ls ++ [l]) = bdL o Ls ++ [nI (o + Ls.flatten.length + l.length)]
  | [], o, l => by simp [bdL]
  | a :: r, o, l => by
    have := bdL_snoc r (o + a.length) l
    simp only [List.cons_append, bdL, this, List.flatten_cons, List.length_append]
    rw [show o + a.length + r.flatten.length + l.length = o + (a.length + r.flatten.length) + l.length by omega]
theorem bnT_snoc (Ls : List (List Int32)) (l : List Int32) : bnT (Ls ++ [l]) = bnT Ls ++ [nI (Ls.flatten.length + l.length)] := by
  simp only [bnT, bdL_snoc, Nat.zero_add, List.cons_append]
theorem bnT_at : ∀ (Ls : List (List Int32)) (k : Nat), k ≤ Ls.length → (bnT Ls)[k]? = some (nI (Ls.take k).flatten.length) := by
  have key : ∀ (Ls : List (List Int32)) (o k : Nat), k < Ls.length → (bdL o Ls)[k]? = some (nI (o + (Ls.take (k + 1)).flatten.length)) := by
    intro Ls
    induction Ls with
    | nil => intro o k hk; simp at hk
    | cons a r ih =>
      intro o k hk
      cases k with
      | zero => simp [bdL]
      | succ k =>
        have := ih (o + a.length) k (by simp at hk; omega)
        simp only [bdL, List.getElem?_cons_succ, this, List.take_succ_cons, List.flatten_cons, List.length_append]
        rw [Nat.add_assoc]
  intro Ls k hk
  cases k with
  | zero => rfl
  | succ k =>
    have := key Ls 0 k (by omega)
    rw [Nat.zero_add] at this
    exact this
theorem flat_take {Ls : List (List Int32)} {k : Nat} {l : List Int32} (h : Ls[k]? = some l) : Ls.flatten = (Ls.take k).flatten ++ (l ++ (Ls.drop (k + 1)).flatten) ∧ (Ls.take (k + 1)).flatten.length = (Ls.take k).flatten.length + l.length := by
  obtain ⟨hk, e⟩ := List.getElem?_eq_some_iff.mp h
  constructor
  · have e1 : Ls = Ls.take k ++ (l :: Ls.drop (k + 1)) := by
      rw [← e, List.getElem_cons_drop, List.take_append_drop]
    have e2 := congrArg List.flatten e1
    rw [e2]
    simp
  · rw [List.take_succ_eq_append_getElem hk, e]
    simp
theorem szT {Ls : List (List Int32)} {k : Nat} {l : List Int32} (hL : Ls.length < 2 ^ 30) (h : Ls[k]? = some l) : szO (bnT Ls) (nI k) = nI l.length := by
  have hk := (List.getElem?_eq_some_iff.mp h).1
  obtain ⟨-, e2⟩ := flat_take h
  unfold szO
  rw [if_neg (nI_pos (by omega)), bnT_len, nI_pred, if_neg (fun z => by have := (nI_leI (by omega) (by omega)).mp z; omega), nI_1, rg_at (bnT_at Ls (k + 1) (by omega)) (by omega), rg_at (bnT_at Ls k (by omega)) (by omega), e2, pk_sub (by omega), Nat.add_sub_cancel_left]
theorem szT_no {Ls : List (List Int32)} {x : Int32} (hL : Ls.length < 2 ^ 30) (h : x < 0 ∨ nI Ls.length ≤ x) : szO (bnT Ls) x = -1 := by
  unfold szO
  by_cases h0 : x < 0
  · rw [if_pos h0]
  · rw [if_neg h0, bnT_len, nI_pred, if_pos (h.resolve_left h0)]
theorem btT {Ls : List (List Int32)} {op : List Int32} {k : Nat} {l : List Int32} (hL : Ls.length < 2 ^ 30) (hb : Ls.flatten.length < 2 ^ 30) (h : Ls[k]? = some l) (i : Int32) : btO (Ls.flatten ++ op) (bnT Ls) (nI k) i = rg l i := by
  have hk := (List.getElem?_eq_some_iff.mp h).1
  obtain ⟨e1, -⟩ := flat_take h
  have el := congrArg List.length e1
  simp only [List.length_append] at el
  unfold btO
  rw [szT hL h, rg_at (bnT_at Ls k (by omega)) (by omega)]
  by_cases hi : i < 0
  · rw [if_pos hi, rg_neg hi]
  · rw [if_neg hi]
    obtain ⟨j, hj, rfl⟩ := nI_of hi
    by_cases hle : nI l.length ≤ nI j
    · rw [if_pos hle, rg_big hi hle (by omega)]
    · rw [if_neg hle]
      have hlt : j < l.length := by
        rcases Nat.lt_or_ge j l.length with q | q
        · exact q
        · exact absurd (nI_le q (by omega)) hle
      rw [nI_add, rg_nat (by omega), rg_nat (by omega), List.getD_eq_getElem?_getD, List.getD_eq_getElem?_getD, e1, List.append_assoc, List.getElem?_append_right (by omega), Nat.add_sub_cancel_left, List.append_assoc, List.getElem?_append_left hlt]
theorem btT_no {Ls : List (List Int32)} {bs : List Int32} {x : Int32} (hL : Ls.length < 2 ^ 30) (h : x < 0 ∨ nI Ls.length ≤ x) (i : Int32) : btO bs (bnT Ls) x i = -1 := by
  unfold btO
  rw [szT_no hL h]
  by_cases hi : i < 0
  · rw [if_pos hi]
  · rw [if_neg hi, if_pos]
    have h1 : (-1 : Int32) < 0 := by decide
    exact Int32.le_of_lt (Int32.lt_of_lt_of_le h1 (Int32.not_lt.mp hi))
section TXH
variable {G : gl_G} {cI : ClassId} {h : hp_T} {X : Nat} {σ : rwT}
theorem txH_same {σ' : rwT} {t : Nat} {Ls : List (List Int32)} {op : List Int32} (H : txH σ t Ls op) (h1 : (σ' (t + 1)).2.2 = (σ (t + 1)).2.2) (h3 : (σ' (t + 3)).2.2 = (σ (t + 3)).2.2) : txH σ' t Ls op := ⟨h1.trans H.1, h3.trans H.2⟩
theorem y_put (hT : (gl_t G)[0]? = some (cI, .int)) (S : tS cI X h σ) {t : Nat} (ht : t ∈ txs) {Ls : List (List Int32)} {op : List Int32} (H : txH σ t Ls op) (hb : Ls.flatten.length + op.length < 4096) (b : Int32) : ct_E G m_Texts_put [.ref (X + t), .int b] h (cn (tP cI X h σ [t + 1] (fun σ' => txH σ' t Ls (op ++ [b])))) := by
  refine ct_to (w_put hT S ht b) ?_
  rintro o h' ⟨rfl, σ', p1, p2, p3, p4⟩
  refine ⟨rfl, σ', p1, p2, p3, ?_, (p3 (t + 3) (by simp)).trans H.2⟩
  rw [p4, H.1, addR, if_pos (by rw [List.length_append]; omega), List.append_assoc]
theorem y_close (hT : (gl_t G)[0]? = some (cI, .int)) (S : tS cI X h σ) {t : Nat} (ht : t ∈ txs) {Ls : List (List Int32)} {op : List Int32} (H : txH σ t Ls op) (hb : Ls.length + 1 < 4096) : ct_E G m_Texts_close [.ref (X + t)] h (cn (tP cI X h σ [t + 3] (fun σ' => txH σ' t (Ls ++ [op]) []))) := by
  refine ct_to (w_close hT S ht) ?_
  rintro o h' ⟨rfl, σ', p1, p2, p3, p4⟩
  refine ⟨rfl, σ', p1, p2, p3, ?_, ?_⟩
  · rw [p3 (t + 1) (by simp), H.1]; simp
  · rw [p4, H.2, H.1, addR, if_pos (by rw [bnT_len]; omega), bnT_snoc, List.length_append]
theorem y_clear (S : tS cI X h σ) {t : Nat} (ht : t ∈ txs) : ct_E G m_Texts_clear [.ref (X + t)] h (cn (tP cI X h σ [t + 1, t + 3] (fun σ' => txH σ' t [] []))) := by
  refine ct_to (w_clear S ht) ?_
  rintro o h' ⟨rfl, σ', p1, p2, p3, p4, p5⟩
  exact ⟨rfl, σ', p1, p2, p3, p4, by rw [p5, S.1.2.1.2 (t + 3) (txs_b t ht).2]; rfl⟩
theorem y_dropOpen (hT : (gl_t G)[0]? = some (cI, .int)) (S : tS cI X h σ) {t : Nat} (ht : t ∈ txs) {Ls : List (List Int32)} {op : List Int32} (H : txH σ t Ls op) (hL : Ls.length < 2 ^ 30) (hb : Ls.flatten.length < 2 ^ 30) : ct_E G m_Texts_dropOpen [.ref (X + t)] h (cn (tP cI X h σ [t + 1] (fun σ' => txH σ' t Ls []))) := by
  refine ct_to (w_dropOpen hT S ht) ?_
  rintro o h' ⟨rfl, σ', p1, p2, p3, p4⟩
  refine ⟨rfl, σ', p1, p2, p3, ?_, (p3 (t + 3) (by simp)).trans H.2⟩
  have e : rg (bnT Ls) (nI (bnT Ls).length - 1) = nI Ls.flatten.length := by
    rw [bnT_len, nI_pred, rg_at (bnT_at Ls Ls.length (Nat.le_refl _)) (by omega), List.take_length]
  rw [p4, H.1, H.2, e, cutR, if_neg (nI_pos (by omega)), nI_clamp (by omega), List.take_left, List.append_nil]
end TXH
