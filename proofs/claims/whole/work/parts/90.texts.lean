/-! the class: texts, over its rows -/
def txs : List Nat := [5, 11, 19, 26, 34, 41, 46, 51, 60, 65]
theorem txs_in : ∀ t ∈ txs, t + 1 ∈ rws ∧ t + 3 ∈ rws ∧ t ∉ rws ∧ t ≤ 65 := by decide
theorem txs_b : ∀ t ∈ txs, t + 1 ∉ bnds ∧ t + 3 ∈ bnds := by decide
/-- the rows as σ says, and the texts' objects over them -/
def tS (cI : ClassId) (X : Nat) (h : hp_T) (σ : rwT) : Prop := rwS cI X h σ ∧ ∀ t ∈ txs, h.2.2 (X + t) = some (.inr (3, [.ref (X + (t + 1)), .ref (X + (t + 3))]))
/-- what the rows' calls leave of an object that is no row -/
theorem rwR_obj {cI : ClassId} {X : Nat} {h h' : hp_T} {σ σ' : rwT} (S : rwS cI X h σ) (r : rwR X h σ h' σ') {q : Nat} {e : Nat × List Value} (hq : h.2.2 q = some (.inr e)) (hlt : q < h.1) (hr : ∀ ρ ∈ rws, q ≠ X + ρ) : h'.2.2 q = some (.inr e) := by
  rw [r.2.2.2.2.1 q hlt hr (fun ρ hρ z => ?_), hq]
  obtain ⟨-, f, h2, -⟩ := (S.1 ρ hρ).1
  rw [z, h2] at hq
  cases hq
theorem tS_go {cI : ClassId} {X : Nat} {h h' : hp_T} {σ σ' : rwT} (S : tS cI X h σ) (S' : rwS cI X h' σ') (r : rwR X h σ h' σ') : tS cI X h' σ' := by
  refine ⟨S', fun t ht => ?_⟩
  have h1 := txs_in t ht
  have hX := S.1.2.2
  exact rwR_obj S.1 r (S.2 t ht) (by omega) (fun ρ hρ z => h1.2.2.1 (by rw [show t = ρ by omega]; exact hρ))
/-- the rows as before but those of ρs -/
def tP (cI : ClassId) (X : Nat) (h : hp_T) (σ : rwT) (ρs : List Nat) (K : rwT → Prop) : hp_T → Prop := fun h' => ∃ σ', tS cI X h' σ' ∧ rwR X h σ h' σ' ∧ (∀ τ, τ ∉ ρs → (σ' τ).2.2 = (σ τ).2.2) ∧ K σ'
section TEXTS2
variable {G : gl_G} {cI : ClassId} {h : hp_T} {X : Nat} {σ : rwT}
theorem tS_tx (S : tS cI X h σ) {t : Nat} (ht : t ∈ txs) : tx_at cI h (X + t) (X + (t + 1)) (σ (t + 1)).1 (σ (t + 1)).2.1 (σ (t + 1)).2.2 (X + (t + 3)) (σ (t + 3)).1 (σ (t + 3)).2.1 (σ (t + 3)).2.2 := ⟨S.2 t ht, (S.1.1 _ (txs_in t ht).1).1, (S.1.1 _ (txs_in t ht).2.1).1⟩
theorem w_small (c : Int32) : ct_E G m_Mail_small [.int c] h (cv (.int (sp_small c)) h) := by
  refine ct_of (ws' := tb_all) rfl rfl (Nat.le_of_ble_eq_true rfl) ?_
  unfold sp_small
  refine ev_iload_n d_Mail_small_0 rfl rfl ?_
  refine ev_bipush (v := 65) d_Mail_small_1 (by decide) ?_
  refine ev_icmp_lt (tgt := 19) d_Mail_small_3 (by decide) (fun c_3 => ?_) (fun c_3 => ?_)
  · refine ev_iload_n d_Mail_small_19 rfl rfl ?_
    refine ev_iret d_Mail_small_20 rfl ?_
    rw [if_neg (fun z => z.1 c_3)]
    exact ⟨rfl, rfl⟩
  · refine ev_iload_n d_Mail_small_6 rfl rfl ?_
    refine ev_bipush (v := 90) d_Mail_small_7 (by decide) ?_
    refine ev_icmp_gt (tgt := 19) d_Mail_small_9 (by decide) (fun c_9 => ?_) (fun c_9 => ?_)
    · refine ev_iload_n d_Mail_small_19 rfl rfl ?_
      refine ev_iret d_Mail_small_20 rfl ?_
      rw [if_neg (fun z => z.2 c_9)]
      exact ⟨rfl, rfl⟩
    · refine ev_iload_n d_Mail_small_12 rfl rfl ?_
      refine ev_bipush (v := 32) d_Mail_small_13 (by decide) ?_
      refine ev_iadd d_Mail_small_15 ?_
      refine ev_goto (tgt := 20) d_Mail_small_16 (by decide) ?_
      refine ev_iret d_Mail_small_20 rfl ?_
      rw [if_pos ⟨c_3, c_9⟩]
      exact ⟨rfl, rfl⟩
theorem w_isBlank (c : Int32) : ct_E G m_Mail_isBlank [.int c] h (cv (.int (sp_blank c)) h) := by
  refine ct_of (ws' := tb_all) rfl rfl (Nat.le_of_ble_eq_true rfl) ?_
  unfold sp_blank
  refine ev_iload_n d_Mail_isBlank_0 rfl rfl ?_
  refine ev_bipush (v := 32) d_Mail_isBlank_1 (by decide) ?_
  refine ev_icmp_eq (tgt := 12) d_Mail_isBlank_3 (by decide) (fun c_3 => ?_) (fun c_3 => ?_)
  · refine ev_iconst (v := 1) d_Mail_isBlank_12 (by decide) ?_
    refine ev_goto (tgt := 17) d_Mail_isBlank_13 (by decide) ?_
    refine ev_zret d_Mail_isBlank_17 rfl rfl ?_
    rw [if_pos (Or.inl c_3)]
    exact ⟨rfl, rfl⟩
  · refine ev_iload_n d_Mail_isBlank_6 rfl rfl ?_
    refine ev_bipush (v := 9) d_Mail_isBlank_7 (by decide) ?_
    refine ev_icmp_ne (tgt := 16) d_Mail_isBlank_9 (by decide) (fun c_9 => ?_) (fun c_9 => ?_)
    · refine ev_iconst (v := 0) d_Mail_isBlank_16 (by decide) ?_
      refine ev_zret d_Mail_isBlank_17 rfl rfl ?_
      rw [if_neg (fun z => z.elim c_3 c_9)]
      exact ⟨rfl, rfl⟩
    · refine ev_iconst (v := 1) d_Mail_isBlank_12 (by decide) ?_
      refine ev_goto (tgt := 17) d_Mail_isBlank_13 (by decide) ?_
      refine ev_zret d_Mail_isBlank_17 rfl rfl ?_
      have e : c = 9 := by
        by_cases q : c = 9
        · exact q
        · first | exact absurd q c_9 | exact c_9
      rw [if_pos (Or.inr e)]
      exact ⟨rfl, rfl⟩
/-- digit: its number, or none -/
def sp_dig (c : Int32) : Int32 := if ¬ c < 48 ∧ ¬ 57 < c then c - 48 else -1
theorem w_digit (c : Int32) : ct_E G m_Mail_digit [.int c] h (cv (.int (sp_dig c)) h) := by
  refine ct_of (ws' := tb_all) rfl rfl (Nat.le_of_ble_eq_true rfl) ?_
  unfold sp_dig
  refine ev_iload_n d_Mail_digit_0 rfl rfl ?_
  refine ev_bipush (v := 48) d_Mail_digit_1 (by decide) ?_
  refine ev_icmp_lt (tgt := 19) d_Mail_digit_3 (by decide) (fun c_3 => ?_) (fun c_3 => ?_)
  · refine ev_iconst (v := (-1)) d_Mail_digit_19 (by decide) ?_
    refine ev_iret d_Mail_digit_20 rfl ?_
    rw [if_neg (fun z => z.1 c_3)]
    exact ⟨rfl, rfl⟩
  · refine ev_iload_n d_Mail_digit_6 rfl rfl ?_
    refine ev_bipush (v := 57) d_Mail_digit_7 (by decide) ?_
    refine ev_icmp_gt (tgt := 19) d_Mail_digit_9 (by decide) (fun c_9 => ?_) (fun c_9 => ?_)
    · refine ev_iconst (v := (-1)) d_Mail_digit_19 (by decide) ?_
      refine ev_iret d_Mail_digit_20 rfl ?_
      rw [if_neg (fun z => z.2 c_9)]
      exact ⟨rfl, rfl⟩
    · refine ev_iload_n d_Mail_digit_12 rfl rfl ?_
      refine ev_bipush (v := 48) d_Mail_digit_13 (by decide) ?_
      refine ev_isub d_Mail_digit_15 ?_
      refine ev_goto (tgt := 20) d_Mail_digit_16 (by decide) ?_
      refine ev_iret d_Mail_digit_20 rfl ?_
      rw [if_pos ⟨c_3, c_9⟩]
      exact ⟨rfl, rfl⟩
theorem w_put (hT : (gl_t G)[0]? = some (cI, .int)) (S : tS cI X h σ) {t : Nat} (ht : t ∈ txs) (b : Int32) : ct_E G m_Texts_put [.ref (X + t), .int b] h (cn (tP cI X h σ [t + 1] (fun σ' => (σ' (t + 1)).2.2 = addR (σ (t + 1)).2.2 b))) := by
  obtain ⟨t1, t3, -, -⟩ := txs_in t ht
  refine ct_of (ws' := tb_all) rfl rfl (Nat.le_of_ble_eq_true rfl) ?_
  refine ev_aload_n d_Texts_put_0 rfl rfl ?_
  refine ev_get (fa_Texts_12 rfl rfl) d_Texts_put_1 (S.2 t ht) rfl ?_
  refine ev_iload_n d_Texts_put_4 rfl rfl ?_
  refine ev_Vn (ci := 1) [.int b] [] ca_Texts_put_21 d_Texts_put_5 rfl ((S.1.1 _ t1).1.1) rfl (Nat.le_of_ble_eq_true rfl) (w_add hT S.1 t1 b) (fun h1 z => ?_)
  obtain ⟨c', cap', q1, q2⟩ := z
  refine ev_vret d_Texts_put_8 rfl ?_
  exact ⟨rfl, _, tS_go S q1 q2, q2, fun τ hτ => by rw [rwU_ne (fun z => hτ (by simp [z]))], by show (rwU σ _ _ _).2.2 = _; rw [rwU_at]⟩
theorem w_close (hT : (gl_t G)[0]? = some (cI, .int)) (S : tS cI X h σ) {t : Nat} (ht : t ∈ txs) : ct_E G m_Texts_close [.ref (X + t)] h (cn (tP cI X h σ [t + 3] (fun σ' => (σ' (t + 3)).2.2 = addR (σ (t + 3)).2.2 (nI (σ (t + 1)).2.2.length)))) := by
  obtain ⟨t1, t3, -, -⟩ := txs_in t ht
  refine ct_of (ws' := tb_all) rfl rfl (Nat.le_of_ble_eq_true rfl) ?_
  refine ev_aload_n d_Texts_close_0 rfl rfl ?_
  refine ev_get (fa_Texts_18 rfl rfl) d_Texts_close_1 (S.2 t ht) rfl ?_
  refine ev_aload_n d_Texts_close_4 rfl rfl ?_
  refine ev_get (fa_Texts_12 rfl rfl) d_Texts_close_5 (S.2 t ht) rfl ?_
  refine ev_Vv (ci := 1) [] [.ref (X + (t + 3))] ca_Texts_close_25 d_Texts_close_8 rfl ((S.1.1 _ t1).1.1) rfl (Nat.le_of_ble_eq_true rfl) (w_size S.1 t1) ?_
  refine ev_Vn (ci := 1) [.int (nI (σ (t + 1)).2.2.length)] [] ca_Texts_close_21 d_Texts_close_11 rfl ((S.1.1 _ t3).1.1) rfl (Nat.le_of_ble_eq_true rfl) (w_add hT S.1 t3 _) (fun h1 z => ?_)
  obtain ⟨c', cap', q1, q2⟩ := z
  refine ev_vret d_Texts_close_14 rfl ?_
  exact ⟨rfl, _, tS_go S q1 q2, q2, fun τ hτ => by rw [rwU_ne (fun z => hτ (by simp [z]))], by show (rwU σ _ _ _).2.2 = _; rw [rwU_at]⟩
theorem w_clear (S : tS cI X h σ) {t : Nat} (ht : t ∈ txs) : ct_E G m_Texts_clear [.ref (X + t)] h (cn (tP cI X h σ [t + 1, t + 3] (fun σ' => (σ' (t + 1)).2.2 = [] ∧ (σ' (t + 3)).2.2 = (σ (t + 3)).2.2.take 1))) := by
  obtain ⟨t1, t3, -, -⟩ := txs_in t ht
  refine ct_of (ws' := tb_all) rfl rfl (Nat.le_of_ble_eq_true rfl) ?_
  refine ev_aload_n d_Texts_clear_0 rfl rfl ?_
  refine ev_get (fa_Texts_12 rfl rfl) d_Texts_clear_1 (S.2 t ht) rfl ?_
  refine ev_iconst (v := 0) d_Texts_clear_4 (by decide) ?_
  refine ev_Vn (ci := 1) [.int 0] [] ca_Texts_clear_43 d_Texts_clear_5 rfl ((S.1.1 _ t1).1.1) rfl (Nat.le_of_ble_eq_true rfl) (w_cutTo S.1 t1 0 (fun z => absurd z (txs_b t ht).1)) (fun h1 z => ?_)
  obtain ⟨q1, q2⟩ := z
  have S1 := tS_go S q1 q2
  refine ev_aload_n d_Texts_clear_8 rfl rfl ?_
  refine ev_get (fa_Texts_18 rfl rfl) d_Texts_clear_9 (S1.2 t ht) rfl ?_
  refine ev_iconst (v := 1) d_Texts_clear_12 (by decide) ?_
  refine ev_Vn (ci := 1) [.int 1] [] ca_Texts_clear_43 d_Texts_clear_13 rfl ((S1.1.1 _ t3).1.1) rfl (Nat.le_of_ble_eq_true rfl) (w_cutTo S1.1 t3 1 (fun _ => by decide)) (fun h1 z => ?_)
  obtain ⟨q3, q4⟩ := z
  refine ev_vret d_Texts_clear_16 rfl ?_
  refine ⟨rfl, _, tS_go S1 q3 q4, rwR_tr q2 q4, fun τ hτ => ?_, ?_, ?_⟩
  · rw [rwU_ne (fun z => hτ (by simp [z])), rwU_ne (fun z => hτ (by simp [z]))]
  · rw [rwU_ne (by omega), rwU_at]; rfl
  · rw [rwU_at]
    show cutR (rwU σ (t + 1) _ (t + 3)).2.2 1 = _
    rw [rwU_ne (by omega)]
    rfl
theorem w_dropOpen (hT : (gl_t G)[0]? = some (cI, .int)) (S : tS cI X h σ) {t : Nat} (ht : t ∈ txs) : ct_E G m_Texts_dropOpen [.ref (X + t)] h (cn (tP cI X h σ [t + 1] (fun σ' => (σ' (t + 1)).2.2 = cutR (σ (t + 1)).2.2 (rg (σ (t + 3)).2.2 (nI (σ (t + 3)).2.2.length - 1))))) := by
  obtain ⟨t1, t3, -, -⟩ := txs_in t ht
  refine ct_of (ws' := tb_all) rfl rfl (Nat.le_of_ble_eq_true rfl) ?_
  refine ev_aload_n d_Texts_dropOpen_0 rfl rfl ?_
  refine ev_get (fa_Texts_12 rfl rfl) d_Texts_dropOpen_1 (S.2 t ht) rfl ?_
  refine ev_aload_n d_Texts_dropOpen_4 rfl rfl ?_
  refine ev_get (fa_Texts_18 rfl rfl) d_Texts_dropOpen_5 (S.2 t ht) rfl ?_
  refine ev_aload_n d_Texts_dropOpen_8 rfl rfl ?_
  refine ev_get (fa_Texts_18 rfl rfl) d_Texts_dropOpen_9 (S.2 t ht) rfl ?_
  refine ev_Vv (ci := 1) [] [.ref (X + (t + 3)), .ref (X + (t + 1))] ca_Texts_dropOpen_25 d_Texts_dropOpen_12 rfl ((S.1.1 _ t3).1.1) rfl (Nat.le_of_ble_eq_true rfl) (w_size S.1 t3) ?_
  refine ev_iconst (v := 1) d_Texts_dropOpen_15 (by decide) ?_
  refine ev_isub d_Texts_dropOpen_16 ?_
  refine ev_Vv (ci := 1) [.int (nI (σ (t + 3)).2.2.length - 1)] [.ref (X + (t + 1))] ca_Texts_dropOpen_29 d_Texts_dropOpen_17 rfl ((S.1.1 _ t3).1.1) rfl (Nat.le_of_ble_eq_true rfl) (w_get hT S.1 t3 _) ?_
  refine ev_Vn (ci := 1) [.int (rg (σ (t + 3)).2.2 (nI (σ (t + 3)).2.2.length - 1))] [] ca_Texts_dropOpen_43 d_Texts_dropOpen_20 rfl ((S.1.1 _ t1).1.1) rfl (Nat.le_of_ble_eq_true rfl) (w_cutTo S.1 t1 _ (fun z => absurd z (txs_b t ht).1)) (fun h1 z => ?_)
  obtain ⟨q1, q2⟩ := z
  refine ev_vret d_Texts_dropOpen_23 rfl ?_
  exact ⟨rfl, _, tS_go S q1 q2, q2, fun τ hτ => by rw [rwU_ne (fun z => hτ (by simp [z]))], by show (rwU σ _ _ _).2.2 = _; rw [rwU_at]⟩
theorem w_sizeOf (hT : (gl_t G)[0]? = some (cI, .int)) (S : tS cI X h σ) {t : Nat} (ht : t ∈ txs) (k : Int32) : ct_E G m_Texts_sizeOf [.ref (X + t), .int k] h (cv (.int (szO (σ (t + 3)).2.2 k)) h) := c_Texts_sizeOf hT (tS_tx S ht) k
theorem w_byteOf (hT : (gl_t G)[0]? = some (cI, .int)) (S : tS cI X h σ) {t : Nat} (ht : t ∈ txs) (k i : Int32) : ct_E G m_Texts_byteOf [.ref (X + t), .int k, .int i] h (cv (.int (btO (σ (t + 1)).2.2 (σ (t + 3)).2.2 k i)) h) := c_Texts_byteOf hT (tS_tx S ht) k i
end TEXTS2
