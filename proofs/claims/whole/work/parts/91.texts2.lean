section TEXTS3
variable {G : gl_G} {cI : ClassId} {h : hp_T} {X : Nat} {σ : rwT}
theorem tP_tr {h1 : hp_T} {σ1 : rwT} {ρs : List Nat} {K K' : rwT → Prop} {h' : hp_T} (r : rwR X h σ h1 σ1) (hs : ∀ τ, τ ∉ ρs → (σ1 τ).2.2 = (σ τ).2.2) (p : tP cI X h1 σ1 ρs K h') (hK : ∀ s, K s → K' s) : tP cI X h σ ρs K' h' := by
  obtain ⟨σ', p1, p2, p3, p4⟩ := p
  exact ⟨σ', p1, rwR_tr r p2, fun τ hτ => (p3 τ hτ).trans (hs τ hτ), hK _ p4⟩
theorem l_putText (hT : (gl_t G)[0]? = some (cI, .int)) {t u : Nat} (ht : t ∈ txs) (hu : u ∈ txs) {n : Nat} (hn : n < 2 ^ 31) {k s : Int32} : ∀ (d i : Nat) (h : hp_T) (σ : rwT), i + d = n → tS cI X h σ → ev_E G m_Texts_putText 19 [(0, .ref (X + t)), (1, .ref (X + u)), (2, .int k), (3, .int s), (4, .int (nI n)), (5, .int (nI i))] [] h (cn (tP cI X h σ [t + 1] (fun _ => True))) := by
  obtain ⟨t1, -, -, -⟩ := txs_in t ht
  obtain ⟨u1, -, -, -⟩ := txs_in u hu
  intro d
  induction d with
  | zero =>
    intro i h σ hi S
    refine ev_iload d_Texts_putText_19 rfl ?_
    refine ev_iload d_Texts_putText_21 rfl ?_
    refine ev_icmp_ge (tgt := 50) d_Texts_putText_23 (by decide) (fun _ => ?_) (fun z => absurd (nI_le (by omega) (by omega)) z)
    refine ev_vret d_Texts_putText_50 rfl ?_
    exact ⟨rfl, σ, S, rwR_rf, fun _ _ => rfl, trivial⟩
  | succ d ih =>
    intro i h σ hi S
    refine ev_iload d_Texts_putText_19 rfl ?_
    refine ev_iload d_Texts_putText_21 rfl ?_
    refine ev_icmp_ge (tgt := 50) d_Texts_putText_23 (by decide) (fun z => absurd z (nI_ge (by omega) (by omega))) (fun _ => ?_)
    refine ev_aload_n d_Texts_putText_26 rfl rfl ?_
    refine ev_get (fa_Texts_12 rfl rfl) d_Texts_putText_27 (S.2 t ht) rfl ?_
    refine ev_aload_n d_Texts_putText_30 rfl rfl ?_
    refine ev_get (fa_Texts_12 rfl rfl) d_Texts_putText_31 (S.2 u hu) rfl ?_
    refine ev_iload_n d_Texts_putText_34 rfl rfl ?_
    refine ev_iload d_Texts_putText_35 rfl ?_
    refine ev_iadd d_Texts_putText_37 ?_
    refine ev_Vv (ci := 1) [.int (s + nI i)] [.ref (X + (t + 1))] ca_Texts_putText_29 d_Texts_putText_38 rfl ((S.1.1 _ u1).1.1) rfl (Nat.le_of_ble_eq_true rfl) (w_get hT S.1 u1 _) ?_
    refine ev_Vn (ci := 1) [.int _] [] ca_Texts_putText_21 d_Texts_putText_41 rfl ((S.1.1 _ t1).1.1) rfl (Nat.le_of_ble_eq_true rfl) (w_add hT S.1 t1 _) (fun h1 z => ?_)
    obtain ⟨c', cap', q1, q2⟩ := z
    refine ev_iinc d_Texts_putText_44 rfl (by decide) ?_
    refine ev_goto (tgt := 19) d_Texts_putText_47 (by decide) ?_
    rw [show nI i + Int32.ofInt 1 = nI (i + 1) from nI_1 i]
    refine ev_to (ih (i + 1) h1 _ (by omega) (tS_go S q1 q2)) ?_
    rintro o h' ⟨rfl, p⟩
    exact ⟨rfl, tP_tr q2 (fun τ hτ => by rw [rwU_ne (fun z => hτ (by simp [z]))]) p (fun _ z => z)⟩
theorem w_putText (hT : (gl_t G)[0]? = some (cI, .int)) (S : tS cI X h σ) {t u : Nat} (ht : t ∈ txs) (hu : u ∈ txs) (k : Int32) : ct_E G m_Texts_putText [.ref (X + t), .ref (X + u), .int k] h (cn (tP cI X h σ [t + 1] (fun _ => True))) := by
  obtain ⟨-, u3, -, -⟩ := txs_in u hu
  refine ct_of (ws' := tb_all) rfl rfl (Nat.le_of_ble_eq_true rfl) ?_
  refine ev_aload_n d_Texts_putText_0 rfl rfl ?_
  refine ev_get (fa_Texts_18 rfl rfl) d_Texts_putText_1 (S.2 u hu) rfl ?_
  refine ev_iload_n d_Texts_putText_4 rfl rfl ?_
  refine ev_Vv (ci := 1) [.int k] [] ca_Texts_putText_29 d_Texts_putText_5 rfl ((S.1.1 _ u3).1.1) rfl (Nat.le_of_ble_eq_true rfl) (w_get hT S.1 u3 k) ?_
  refine ev_istore_n d_Texts_putText_8 rfl (by decide) ?_
  refine ev_aload_n d_Texts_putText_9 rfl rfl ?_
  refine ev_iload_n d_Texts_putText_10 rfl rfl ?_
  refine ev_Vv (ci := 3) [.int k] [] ca_Texts_putText_33 d_Texts_putText_11 rfl ((S.2 u hu)) rfl (Nat.le_of_ble_eq_true rfl) (w_sizeOf hT S hu k) ?_
  generalize szO (σ (u + 3)).2.2 k = sz
  refine ev_istore d_Texts_putText_14 (by decide) ?_
  refine ev_iconst (v := 0) d_Texts_putText_16 (by decide) ?_
  refine ev_istore d_Texts_putText_17 (by decide) ?_
  by_cases h0 : sz < 0
  · refine ev_iload d_Texts_putText_19 rfl ?_
    refine ev_iload d_Texts_putText_21 rfl ?_
    refine ev_icmp_ge (tgt := 50) d_Texts_putText_23 (by decide) (fun _ => ?_) (fun z => absurd (Int32.le_of_lt h0) z)
    refine ev_vret d_Texts_putText_50 rfl ?_
    exact ⟨rfl, σ, S, rwR_rf, fun _ _ => rfl, trivial⟩
  · obtain ⟨n, hn, rfl⟩ := nI_of h0
    exact l_putText hT ht hu hn n 0 h σ (by omega) S
theorem l_putSmall (hNm : gl_nm G) (hT : (gl_t G)[0]? = some (cI, .int)) {t u : Nat} (ht : t ∈ txs) (hu : u ∈ txs) {n : Nat} (hn : n < 2 ^ 31) {k : Int32} : ∀ (d i : Nat) (h : hp_T) (σ : rwT), i + d = n → tS cI X h σ → ev_E G m_Texts_putSmall 3 [(0, .ref (X + t)), (1, .ref (X + u)), (2, .int k), (3, .int (nI n)), (4, .int (nI i))] [] h (cn (tP cI X h σ [t + 1] (fun _ => True))) := by
  obtain ⟨t1, -, -, -⟩ := txs_in t ht
  intro d
  induction d with
  | zero =>
    intro i h σ hi S
    refine ev_iload d_Texts_putSmall_3 rfl ?_
    refine ev_iload_n d_Texts_putSmall_5 rfl rfl ?_
    refine ev_icmp_ge (tgt := 32) d_Texts_putSmall_6 (by decide) (fun _ => ?_) (fun z => absurd (nI_le (by omega) (by omega)) z)
    refine ev_vret d_Texts_putSmall_32 rfl ?_
    exact ⟨rfl, σ, S, rwR_rf, fun _ _ => rfl, trivial⟩
  | succ d ih =>
    intro i h σ hi S
    refine ev_iload d_Texts_putSmall_3 rfl ?_
    refine ev_iload_n d_Texts_putSmall_5 rfl rfl ?_
    refine ev_icmp_ge (tgt := 32) d_Texts_putSmall_6 (by decide) (fun z => absurd z (nI_ge (by omega) (by omega))) (fun _ => ?_)
    refine ev_aload_n d_Texts_putSmall_9 rfl rfl ?_
    refine ev_get (fa_Texts_12 rfl rfl) d_Texts_putSmall_10 (S.2 t ht) rfl ?_
    refine ev_aload_n d_Texts_putSmall_13 rfl rfl ?_
    refine ev_iload_n d_Texts_putSmall_14 rfl rfl ?_
    refine ev_iload d_Texts_putSmall_15 rfl ?_
    refine ev_Vv (ci := 3) [.int k, .int (nI i)] [.ref (X + (t + 1))] ca_Texts_putSmall_36 d_Texts_putSmall_17 rfl ((S.2 u hu)) rfl (Nat.le_of_ble_eq_true rfl) (w_byteOf hT S hu k (nI i)) ?_
    refine ev_Nv hNm [.int _] [.ref (X + (t + 1))] cn_Texts_putSmall_40 d_Texts_putSmall_20 rfl (Nat.le_of_ble_eq_true rfl) (w_small _) ?_
    refine ev_Vn (ci := 1) [.int _] [] ca_Texts_putSmall_21 d_Texts_putSmall_23 rfl ((S.1.1 _ t1).1.1) rfl (Nat.le_of_ble_eq_true rfl) (w_add hT S.1 t1 _) (fun h1 z => ?_)
    obtain ⟨c', cap', q1, q2⟩ := z
    refine ev_iinc d_Texts_putSmall_26 rfl (by decide) ?_
    refine ev_goto (tgt := 3) d_Texts_putSmall_29 (by decide) ?_
    rw [show nI i + Int32.ofInt 1 = nI (i + 1) from nI_1 i]
    refine ev_to (ih (i + 1) h1 _ (by omega) (tS_go S q1 q2)) ?_
    rintro o h' ⟨rfl, p⟩
    exact ⟨rfl, tP_tr q2 (fun τ hτ => by rw [rwU_ne (fun z => hτ (by simp [z]))]) p (fun _ z => z)⟩
theorem w_putSmall (hNm : gl_nm G) (hT : (gl_t G)[0]? = some (cI, .int)) (S : tS cI X h σ) {t u : Nat} (ht : t ∈ txs) (hu : u ∈ txs) (k sz : Int32) : ct_E G m_Texts_putSmall [.ref (X + t), .ref (X + u), .int k, .int sz] h (cn (tP cI X h σ [t + 1] (fun _ => True))) := by
  refine ct_of (ws' := tb_all) rfl rfl (Nat.le_of_ble_eq_true rfl) ?_
  refine ev_iconst (v := 0) d_Texts_putSmall_0 (by decide) ?_
  refine ev_istore d_Texts_putSmall_1 (by decide) ?_
  by_cases h0 : sz < 0
  · refine ev_iload d_Texts_putSmall_3 rfl ?_
    refine ev_iload_n d_Texts_putSmall_5 rfl rfl ?_
    refine ev_icmp_ge (tgt := 32) d_Texts_putSmall_6 (by decide) (fun _ => ?_) (fun z => absurd (Int32.le_of_lt h0) z)
    refine ev_vret d_Texts_putSmall_32 rfl ?_
    exact ⟨rfl, σ, S, rwR_rf, fun _ _ => rfl, trivial⟩
  · obtain ⟨n, hn, rfl⟩ := nI_of h0
    exact l_putSmall hNm hT ht hu hn n 0 h σ (by omega) S
/-- whether text k is named nm, whatever letters: from byte i on -/
def nmF (bs bd nm : List Int32) (k : Int32) : Nat → Nat → Bool
  | 0, _ => true
  | d + 1, i => decide (sp_small (btO bs bd k (nI i)) = sp_small (rg nm (nI i))) && nmF bs bd nm k d (i + 1)
def nmO (bs bd nm : List Int32) (k : Int32) : Bool := decide (szO bd k = nI nm.length) && nmF bs bd nm k nm.length 0
theorem l_isNamed (hNm : gl_nm G) (hT : (gl_t G)[0]? = some (cI, .int)) (S : tS cI X h σ) {t ρ : Nat} (ht : t ∈ txs) (hρ : ρ ∈ rws) {k : Int32} (hl : (σ ρ).2.2.length < 2 ^ 31) : ∀ (d i : Nat), i + d = (σ ρ).2.2.length → ev_E G m_Texts_isNamed 16 [(0, .ref (X + t)), (1, .int k), (2, .ref (X + ρ)), (3, .int (nI i))] [] h (cv (.int (bI (nmF (σ (t + 1)).2.2 (σ (t + 3)).2.2 (σ ρ).2.2 k d i))) h) := by
  intro d
  induction d with
  | zero =>
    intro i hi
    refine ev_iload_n d_Texts_isNamed_16 rfl rfl ?_
    refine ev_aload_n d_Texts_isNamed_17 rfl rfl ?_
    refine ev_Vv (ci := 1) [] [.int (nI i)] ca_Texts_isNamed_25 d_Texts_isNamed_18 rfl ((S.1.1 _ hρ).1.1) rfl (Nat.le_of_ble_eq_true rfl) (w_size S.1 hρ) ?_
    refine ev_icmp_ge (tgt := 52) d_Texts_isNamed_21 (by decide) (fun _ => ?_) (fun z => absurd (nI_le (by omega) (by omega)) z)
    refine ev_iconst (v := 1) d_Texts_isNamed_52 (by decide) ?_
    refine ev_zret d_Texts_isNamed_53 rfl rfl ?_
    exact ⟨rfl, rfl⟩
  | succ d ih =>
    intro i hi
    refine ev_iload_n d_Texts_isNamed_16 rfl rfl ?_
    refine ev_aload_n d_Texts_isNamed_17 rfl rfl ?_
    refine ev_Vv (ci := 1) [] [.int (nI i)] ca_Texts_isNamed_25 d_Texts_isNamed_18 rfl ((S.1.1 _ hρ).1.1) rfl (Nat.le_of_ble_eq_true rfl) (w_size S.1 hρ) ?_
    refine ev_icmp_ge (tgt := 52) d_Texts_isNamed_21 (by decide) (fun z => absurd z (nI_ge (by omega) (by omega))) (fun _ => ?_)
    refine ev_aload_n d_Texts_isNamed_24 rfl rfl ?_
    refine ev_iload_n d_Texts_isNamed_25 rfl rfl ?_
    refine ev_iload_n d_Texts_isNamed_26 rfl rfl ?_
    refine ev_Vv (ci := 3) [.int k, .int (nI i)] [] ca_Texts_isNamed_36 d_Texts_isNamed_27 rfl ((S.2 t ht)) rfl (Nat.le_of_ble_eq_true rfl) (w_byteOf hT S ht k (nI i)) ?_
    refine ev_Nv hNm [.int _] [] cn_Texts_isNamed_40 d_Texts_isNamed_30 rfl (Nat.le_of_ble_eq_true rfl) (w_small _) ?_
    refine ev_aload_n d_Texts_isNamed_33 rfl rfl ?_
    refine ev_iload_n d_Texts_isNamed_34 rfl rfl ?_
    refine ev_Vv (ci := 1) [.int (nI i)] [.int _] ca_Texts_isNamed_29 d_Texts_isNamed_35 rfl ((S.1.1 _ hρ).1.1) rfl (Nat.le_of_ble_eq_true rfl) (w_get hT S.1 hρ (nI i)) ?_
    refine ev_Nv hNm [.int _] [.int _] cn_Texts_isNamed_40 d_Texts_isNamed_38 rfl (Nat.le_of_ble_eq_true rfl) (w_small _) ?_
    refine ev_icmp_eq (tgt := 46) d_Texts_isNamed_41 (by decide) (fun c_41 => ?_) (fun c_41 => ?_)
    · rw [show nmF (σ (t + 1)).2.2 (σ (t + 3)).2.2 (σ ρ).2.2 k (d + 1) i = nmF (σ (t + 1)).2.2 (σ (t + 3)).2.2 (σ ρ).2.2 k d (i + 1) by simp [nmF, c_41]]
      refine ev_iinc d_Texts_isNamed_46 rfl (by decide) ?_
      refine ev_goto (tgt := 16) d_Texts_isNamed_49 (by decide) ?_
      rw [show nI i + Int32.ofInt 1 = nI (i + 1) from nI_1 i]
      exact ih (i + 1) (by omega)
    · rw [show nmF (σ (t + 1)).2.2 (σ (t + 3)).2.2 (σ ρ).2.2 k (d + 1) i = false by simp [nmF, c_41]]
      refine ev_iconst (v := 0) d_Texts_isNamed_44 (by decide) ?_
      refine ev_zret d_Texts_isNamed_45 rfl rfl ?_
      exact ⟨rfl, rfl⟩
theorem w_isNamed (hNm : gl_nm G) (hT : (gl_t G)[0]? = some (cI, .int)) (S : tS cI X h σ) {t ρ : Nat} (ht : t ∈ txs) (hρ : ρ ∈ rws) (k : Int32) : ct_E G m_Texts_isNamed [.ref (X + t), .int k, .ref (X + ρ)] h (cv (.int (bI (nmO (σ (t + 1)).2.2 (σ (t + 3)).2.2 (σ ρ).2.2 k))) h) := by
  have hl : (σ ρ).2.2.length < 2 ^ 31 := by
    obtain ⟨-, f, -, a, b, -⟩ := (S.1.1 ρ hρ).1
    omega
  refine ct_of (ws' := tb_all) rfl rfl (Nat.le_of_ble_eq_true rfl) ?_
  refine ev_aload_n d_Texts_isNamed_0 rfl rfl ?_
  refine ev_iload_n d_Texts_isNamed_1 rfl rfl ?_
  refine ev_Vv (ci := 3) [.int k] [] ca_Texts_isNamed_33 d_Texts_isNamed_2 rfl ((S.2 t ht)) rfl (Nat.le_of_ble_eq_true rfl) (w_sizeOf hT S ht k) ?_
  refine ev_aload_n d_Texts_isNamed_5 rfl rfl ?_
  refine ev_Vv (ci := 1) [] [.int _] ca_Texts_isNamed_25 d_Texts_isNamed_6 rfl ((S.1.1 _ hρ).1.1) rfl (Nat.le_of_ble_eq_true rfl) (w_size S.1 hρ) ?_
  refine ev_icmp_eq (tgt := 14) d_Texts_isNamed_9 (by decide) (fun c_9 => ?_) (fun c_9 => ?_)
  · rw [show nmO (σ (t + 1)).2.2 (σ (t + 3)).2.2 (σ ρ).2.2 k = nmF (σ (t + 1)).2.2 (σ (t + 3)).2.2 (σ ρ).2.2 k (σ ρ).2.2.length 0 by simp [nmO, c_9]]
    refine ev_iconst (v := 0) d_Texts_isNamed_14 (by decide) ?_
    refine ev_istore_n d_Texts_isNamed_15 rfl (by decide) ?_
    exact l_isNamed hNm hT S ht hρ hl _ 0 (by omega)
  · rw [show nmO (σ (t + 1)).2.2 (σ (t + 3)).2.2 (σ ρ).2.2 k = false by simp [nmO, c_9]]
    refine ev_iconst (v := 0) d_Texts_isNamed_12 (by decide) ?_
    refine ev_zret d_Texts_isNamed_13 rfl rfl ?_
    exact ⟨rfl, rfl⟩
end TEXTS3
