/-! the class: the head's lines -/
/-- as rwR, but that the objects of O may have changed too -/
def kR (O : List Nat) (X : Nat) (h : hp_T) (σ : rwT) (h' : hp_T) (σ' : rwT) : Prop := h.1 ≤ h'.1 ∧ h.2.1 ≤ h'.2.1 ∧ h'.1 + sumC σ rws ≤ h.1 + sumC σ' rws ∧ h'.2.1 + 2 * sumC σ rws ≤ h.2.1 + 2 * sumC σ' rws ∧ (∀ q, q < h.1 → q ∉ O → (∀ ρ ∈ rws, q ≠ X + ρ) → (∀ ρ ∈ rws, q ≠ (σ ρ).1) → h'.2.2 q = h.2.2 q) ∧ ∀ ρ ∈ rws, (σ' ρ).1 = (σ ρ).1 ∨ h.1 ≤ (σ' ρ).1
theorem kR_of {O : List Nat} {X : Nat} {h h' : hp_T} {σ σ' : rwT} (r : rwR X h σ h' σ') : kR O X h σ h' σ' := ⟨r.1, r.2.1, r.2.2.1, r.2.2.2.1, fun q q1 _ q3 q4 => r.2.2.2.2.1 q q1 q3 q4, r.2.2.2.2.2⟩
theorem kR_rf {O : List Nat} {X : Nat} {h : hp_T} {σ : rwT} : kR O X h σ h σ := kR_of rwR_rf
theorem kR_tr {O : List Nat} {X : Nat} {h1 h2 h3 : hp_T} {σ1 σ2 σ3 : rwT} (a : kR O X h1 σ1 h2 σ2) (b : kR O X h2 σ2 h3 σ3) : kR O X h1 σ1 h3 σ3 := by
  obtain ⟨a1, a2, a3, a4, a5, a6⟩ := a
  obtain ⟨b1, b2, b3, b4, b5, b6⟩ := b
  refine ⟨by omega, by omega, by omega, by omega, fun q q1 q0 q2 q3 => ?_, fun ρ hρ => ?_⟩
  · rw [b5 q (by omega) q0 q2 (fun ρ hρ => ?_), a5 q q1 q0 q2 q3]
    rcases a6 ρ hρ with e | e
    · rw [e]; exact q3 ρ hρ
    · omega
  · rcases b6 ρ hρ with e | e
    · rcases a6 ρ hρ with e2 | e2
      · left; rw [e, e2]
      · right; rw [e]; exact e2
    · right; omega
theorem kR_up {O : List Nat} {X q : Nat} {h : hp_T} {σ : rwT} {e : va_E} (hq : q ∈ O) : kR O X h σ (hp_up h q e) σ := ⟨Nat.le_refl _, Nat.le_refl _, Nat.le_refl _, Nat.le_refl _, fun p _ p0 _ _ => hp_up_ne (fun z => p0 (z ▸ hq)), fun _ _ => Or.inl rfl⟩
/-- an object that is no row and no text may change -/
theorem tS_up {cI : ClassId} {X q : Nat} {h : hp_T} {σ : rwT} {e e2 : Nat × List Value} (S : tS cI X h σ) (hq : h.2.2 (X + q) = some (.inr e)) (h1 : q ∉ rws) (h2 : q ∉ txs) : tS cI X (hp_up h (X + q) (.inr e2)) σ := by
  refine ⟨⟨fun ρ hρ => ?_, S.1.2.1, S.1.2.2⟩, fun t ht => ?_⟩
  · obtain ⟨⟨g1, f, g2, g3⟩, g4, g5, g6⟩ := S.1.1 ρ hρ
    refine ⟨⟨?_, f, ?_, g3⟩, g4, g5, g6⟩
    · rw [hp_up_ne (fun z => h1 (by rw [show q = ρ by omega]; exact hρ))]; exact g1
    · rw [hp_up_ne (fun z => by rw [z, hq] at g2; cases g2)]; exact g2
  · rw [hp_up_ne (fun z => h2 (by rw [show q = t by omega]; exact ht))]
    exact S.2 t ht
/-- an object that is neither changed nor a row stands -/
theorem kR_obj {cI : ClassId} {O : List Nat} {X : Nat} {h h' : hp_T} {σ σ' : rwT} (S : tS cI X h σ) (r : kR O X h σ h' σ') {q : Nat} {e : Nat × List Value} (hq : h.2.2 q = some (.inr e)) (hlt : q < h.1) (hO : q ∉ O) (hr : ∀ ρ ∈ rws, q ≠ X + ρ) : h'.2.2 q = some (.inr e) := by
  rw [r.2.2.2.2.1 q hlt hO hr (fun ρ hρ z => ?_), hq]
  obtain ⟨-, f, h2, -⟩ := (S.1.1 ρ hρ).1
  rw [z, h2] at hq
  cases hq
theorem nrow {X q : Nat} (hq : q ∉ rws) : ∀ ρ ∈ rws, X + q ≠ X + ρ := fun ρ hρ z => hq (by rw [show q = ρ by omega]; exact hρ)
section HEAD2
variable {G : gl_G} {cI : ClassId} {h : hp_T} {X : Nat} {σ : rwT}
theorem l_nameEnd (hT : (gl_t G)[0]? = some (cI, .int)) (S : tS cI X h σ) {ρ e : Nat} (hρ : ρ ∈ rws) (he : e ≤ (σ ρ).2.2.length) (he2 : e < 2 ^ 30) {s : Int32} : ∀ (t : List Int32) (k : Nat), ((σ ρ).2.2.take e).drop k = t → k + t.length = e → ev_E G m_Head_nameEnd 2 [(0, .ref (X + ρ)), (1, .int s), (2, .int (nI e)), (3, .int (nI k))] [] h (cv (.int (nI (k + cnt isNm t))) h) := by
  intro t
  induction t with
  | nil =>
    intro k hd hk
    simp only [List.length_nil] at hk
    refine ev_iload_n d_Head_nameEnd_2 rfl rfl ?_
    refine ev_iload_n d_Head_nameEnd_3 rfl rfl ?_
    refine ev_icmp_ge (tgt := 43) d_Head_nameEnd_4 (by decide) (fun _ => ?_) (fun z => absurd (nI_le (by omega) (by omega)) z)
    refine ev_iload_n d_Head_nameEnd_43 rfl rfl ?_
    refine ev_iret d_Head_nameEnd_44 rfl ?_
    rw [show k + cnt isNm [] = e by simp [cnt]; omega]
    exact ⟨rfl, rfl⟩
  | cons c t ih =>
    intro k hd hk
    simp only [List.length_cons] at hk
    have hc : rg (σ ρ).2.2 (nI k) = c := by
      rw [rg_nat (by omega)]
      have h1 := congrArg (fun l => l[0]?) hd
      simp only [List.getElem?_drop, List.getElem?_take, Nat.add_zero, List.getElem?_cons_zero] at h1
      rw [if_pos (by omega)] at h1
      rw [List.getD_eq_getElem?_getD, h1]
      rfl
    have hd2 : ((σ ρ).2.2.take e).drop (k + 1) = t := by
      have := congrArg (fun l => l.drop 1) hd
      simpa [List.drop_drop, Nat.add_comm] using this
    refine ev_iload_n d_Head_nameEnd_2 rfl rfl ?_
    refine ev_iload_n d_Head_nameEnd_3 rfl rfl ?_
    refine ev_icmp_ge (tgt := 43) d_Head_nameEnd_4 (by decide) (fun z => absurd z (nI_ge (by omega) (by omega))) (fun _ => ?_)
    refine ev_aload_n d_Head_nameEnd_7 rfl rfl ?_
    refine ev_iload_n d_Head_nameEnd_8 rfl rfl ?_
    refine ev_Vv (ci := 1) [.int (nI k)] [] ca_Head_nameEnd_43 d_Head_nameEnd_9 rfl ((S.1.1 _ hρ).1.1) rfl (Nat.le_of_ble_eq_true rfl) (w_get hT S.1 hρ (nI k)) ?_
    rw [hc]
    have stop : isNm c = false → ev_E G m_Head_nameEnd 35 [(0, .ref (X + ρ)), (1, .int s), (2, .int (nI e)), (3, .int (nI k)), (4, .int c)] [] h (cv (.int (nI (k + cnt isNm (c :: t)))) h) := by
      intro z
      rw [cnt_no z]
      refine ev_iload_n d_Head_nameEnd_35 rfl rfl ?_
      refine ev_iret d_Head_nameEnd_36 rfl ?_
      exact ⟨rfl, rfl⟩
    refine ev_istore d_Head_nameEnd_12 (by decide) ?_
    refine ev_iload d_Head_nameEnd_14 rfl ?_
    refine ev_bipush (v := 33) d_Head_nameEnd_16 (by decide) ?_
    refine ev_icmp_lt (tgt := 35) d_Head_nameEnd_18 (by decide) (fun c_18 => ?_) (fun c_18 => ?_)
    · exact stop (decide_eq_false fun z => z.1 c_18)
    · refine ev_iload d_Head_nameEnd_21 rfl ?_
      refine ev_bipush (v := 126) d_Head_nameEnd_23 (by decide) ?_
      refine ev_icmp_gt (tgt := 35) d_Head_nameEnd_25 (by decide) (fun c_25 => ?_) (fun c_25 => ?_)
      · exact stop (decide_eq_false fun z => z.2.1 c_25)
      · refine ev_iload d_Head_nameEnd_28 rfl ?_
        refine ev_bipush (v := 58) d_Head_nameEnd_30 (by decide) ?_
        refine ev_icmp_ne (tgt := 37) d_Head_nameEnd_32 (by decide) (fun c_32 => ?_) (fun c_32 => ?_)
        · rw [cnt_yes (show isNm c = true from decide_eq_true ⟨c_18, c_25, c_32⟩), show k + (cnt isNm t + 1) = k + 1 + cnt isNm t by omega]
          refine ev_iinc d_Head_nameEnd_37 rfl (by decide) ?_
          refine ev_goto (tgt := 2) d_Head_nameEnd_40 (by decide) ?_
          refine ev_as [(0, .ref (X + ρ)), (1, .int s), (2, .int (nI e)), (3, .int (nI (k + 1)))] ⟨rfl, rfl, rfl, ?_, trivial⟩ (ih (k + 1) hd2 (by omega))
          show some (Value.int (nI k + Int32.ofInt 1)) = _
          rw [show nI k + Int32.ofInt 1 = nI (k + 1) from nI_1 k]
        · refine stop (decide_eq_false fun z => z.2.2 ?_)
          by_cases q : c = 58
          · exact q
          · first | exact absurd q c_32 | exact c_32
theorem w_nameEnd (hT : (gl_t G)[0]? = some (cI, .int)) (S : tS cI X h σ) {ρ s e : Nat} (hρ : ρ ∈ rws) (hs : s ≤ e) (he : e ≤ (σ ρ).2.2.length) (he2 : e < 2 ^ 30) : ct_E G m_Head_nameEnd [.ref (X + ρ), .int (nI s), .int (nI e)] h (cv (.int (nI (s + cnt isNm (((σ ρ).2.2.take e).drop s)))) h) := by
  refine ct_of (ws' := tb_all) rfl rfl (Nat.le_of_ble_eq_true rfl) ?_
  refine ev_iload_n d_Head_nameEnd_0 rfl rfl ?_
  refine ev_istore_n d_Head_nameEnd_1 rfl (by decide) ?_
  exact l_nameEnd hT S hρ he he2 _ s rfl (by rw [List.length_drop, List.length_take]; omega)
theorem l_behindBlanks (hNm : gl_nm G) (hT : (gl_t G)[0]? = some (cI, .int)) (S : tS cI X h σ) {ρ e : Nat} (hρ : ρ ∈ rws) (he : e ≤ (σ ρ).2.2.length) (he2 : e < 2 ^ 30) {s : Int32} : ∀ (t : List Int32) (k : Nat), ((σ ρ).2.2.take e).drop k = t → k + t.length = e → ev_E G m_Head_behindBlanks 2 [(0, .ref (X + ρ)), (1, .int s), (2, .int (nI e)), (3, .int (nI k))] [] h (cv (.int (nI (k + cnt isBl t))) h) := by
  intro t
  induction t with
  | nil =>
    intro k hd hk
    simp only [List.length_nil] at hk
    refine ev_iload_n d_Head_behindBlanks_2 rfl rfl ?_
    refine ev_iload_n d_Head_behindBlanks_3 rfl rfl ?_
    refine ev_icmp_ge (tgt := 26) d_Head_behindBlanks_4 (by decide) (fun _ => ?_) (fun z => absurd (nI_le (by omega) (by omega)) z)
    refine ev_iload_n d_Head_behindBlanks_26 rfl rfl ?_
    refine ev_iret d_Head_behindBlanks_27 rfl ?_
    rw [show k + cnt isBl [] = e by simp [cnt]; omega]
    exact ⟨rfl, rfl⟩
  | cons c t ih =>
    intro k hd hk
    simp only [List.length_cons] at hk
    have hc : rg (σ ρ).2.2 (nI k) = c := by
      rw [rg_nat (by omega)]
      have h1 := congrArg (fun l => l[0]?) hd
      simp only [List.getElem?_drop, List.getElem?_take, Nat.add_zero, List.getElem?_cons_zero] at h1
      rw [if_pos (by omega)] at h1
      rw [List.getD_eq_getElem?_getD, h1]
      rfl
    have hd2 : ((σ ρ).2.2.take e).drop (k + 1) = t := by
      have := congrArg (fun l => l.drop 1) hd
      simpa [List.drop_drop, Nat.add_comm] using this
    refine ev_iload_n d_Head_behindBlanks_2 rfl rfl ?_
    refine ev_iload_n d_Head_behindBlanks_3 rfl rfl ?_
    refine ev_icmp_ge (tgt := 26) d_Head_behindBlanks_4 (by decide) (fun z => absurd z (nI_ge (by omega) (by omega))) (fun _ => ?_)
    refine ev_aload_n d_Head_behindBlanks_7 rfl rfl ?_
    refine ev_iload_n d_Head_behindBlanks_8 rfl rfl ?_
    refine ev_Vv (ci := 1) [.int (nI k)] [] ca_Head_behindBlanks_43 d_Head_behindBlanks_9 rfl ((S.1.1 _ hρ).1.1) rfl (Nat.le_of_ble_eq_true rfl) (w_get hT S.1 hρ (nI k)) ?_
    rw [hc]
    refine ev_Nv hNm [.int c] [] cn_Head_behindBlanks_54 d_Head_behindBlanks_12 rfl (Nat.le_of_ble_eq_true rfl) (w_isBlank c) ?_
    by_cases hb : c = 32 ∨ c = 9
    · rw [show sp_blank c = 1 from if_pos hb, cnt_yes (show isBl c = true from decide_eq_true hb), show k + (cnt isBl t + 1) = k + 1 + cnt isBl t by omega]
      refine ev_if_ne (tgt := 20) d_Head_behindBlanks_15 (by decide) (fun _ => ?_) (fun z => absurd z (by decide))
      refine ev_iinc d_Head_behindBlanks_20 rfl (by decide) ?_
      refine ev_goto (tgt := 2) d_Head_behindBlanks_23 (by decide) ?_
      rw [show nI k + Int32.ofInt 1 = nI (k + 1) from nI_1 k]
      exact ih (k + 1) hd2 (by omega)
    · rw [show sp_blank c = 0 from if_neg hb, cnt_no (show isBl c = false from decide_eq_false hb)]
      refine ev_if_ne (tgt := 20) d_Head_behindBlanks_15 (by decide) (fun z => absurd rfl z) (fun _ => ?_)
      refine ev_iload_n d_Head_behindBlanks_18 rfl rfl ?_
      refine ev_iret d_Head_behindBlanks_19 rfl ?_
      exact ⟨rfl, rfl⟩
theorem w_behindBlanks (hNm : gl_nm G) (hT : (gl_t G)[0]? = some (cI, .int)) (S : tS cI X h σ) {ρ s e : Nat} (hρ : ρ ∈ rws) (hs : s ≤ e) (he : e ≤ (σ ρ).2.2.length) (he2 : e < 2 ^ 30) : ct_E G m_Head_behindBlanks [.ref (X + ρ), .int (nI s), .int (nI e)] h (cv (.int (nI (s + cnt isBl (((σ ρ).2.2.take e).drop s)))) h) := by
  refine ct_of (ws' := tb_all) rfl rfl (Nat.le_of_ble_eq_true rfl) ?_
  refine ev_iload_n d_Head_behindBlanks_0 rfl rfl ?_
  refine ev_istore_n d_Head_behindBlanks_1 rfl (by decide) ?_
  exact l_behindBlanks hNm hT S hρ he he2 _ s rfl (by rw [List.length_drop, List.length_take]; omega)
/-- the bytes of the tape from s up to e go to the head's open text -/
theorem l_hputBytes (hT : (gl_t G)[0]? = some (cI, .int)) {hv : List Value} {e : Nat} (he2 : e < 2 ^ 30) {s : Int32} : ∀ (t : List Int32) (k : Nat) (h : hp_T) (σ : rwT), tS cI X h σ → h.2.2 (X + 4) = some (.inr (2, .ref (X + 5) :: hv)) → e ≤ (σ 2).2.2.length → ((σ 2).2.2.take e).drop k = t → k + t.length = e → (σ 6).2.2.length + t.length < 4096 → ev_E G m_Head_putBytes 3 [(0, .ref (X + 4)), (1, .ref (X + 2)), (2, .int s), (3, .int (nI e)), (4, .int (nI k))] [] h (cn (tP cI X h σ [6] (fun σ' => (σ' 6).2.2 = (σ 6).2.2 ++ t))) := by
  have m5 : (5 : Nat) ∈ txs := by decide
  have m2 : (2 : Nat) ∈ rws := by decide
  intro t
  induction t with
  | nil =>
    intro k h σ S hA he hd hk hb
    simp only [List.length_nil] at hk
    refine ev_iload d_Head_putBytes_3 rfl ?_
    refine ev_iload_n d_Head_putBytes_5 rfl rfl ?_
    refine ev_icmp_ge (tgt := 28) d_Head_putBytes_6 (by decide) (fun _ => ?_) (fun z => absurd (nI_le (by omega) (by omega)) z)
    refine ev_vret d_Head_putBytes_28 rfl ?_
    exact ⟨rfl, σ, S, rwR_rf, fun _ _ => rfl, (List.append_nil _).symm⟩
  | cons c t ih =>
    intro k h σ S hA he hd hk hb
    simp only [List.length_cons] at hk hb
    have hc : rg (σ 2).2.2 (nI k) = c := by
      rw [rg_nat (by omega)]
      have h1 := congrArg (fun l => l[0]?) hd
      simp only [List.getElem?_drop, List.getElem?_take, Nat.add_zero, List.getElem?_cons_zero] at h1
      rw [if_pos (by omega)] at h1
      rw [List.getD_eq_getElem?_getD, h1]
      rfl
    have hd2 : ((σ 2).2.2.take e).drop (k + 1) = t := by
      have := congrArg (fun l => l.drop 1) hd
      simpa [List.drop_drop, Nat.add_comm] using this
    refine ev_iload d_Head_putBytes_3 rfl ?_
    refine ev_iload_n d_Head_putBytes_5 rfl rfl ?_
    refine ev_icmp_ge (tgt := 28) d_Head_putBytes_6 (by decide) (fun z => absurd z (nI_ge (by omega) (by omega))) (fun _ => ?_)
    refine ev_aload_n d_Head_putBytes_9 rfl rfl ?_
    refine ev_get (fa_Head_12 rfl rfl) d_Head_putBytes_10 hA rfl ?_
    refine ev_aload_n d_Head_putBytes_13 rfl rfl ?_
    refine ev_iload d_Head_putBytes_14 rfl ?_
    refine ev_Vv (ci := 1) [.int (nI k)] [.ref (X + 5)] ca_Head_putBytes_43 d_Head_putBytes_16 rfl ((S.1.1 _ m2).1.1) rfl (Nat.le_of_ble_eq_true rfl) (w_get hT S.1 m2 (nI k)) ?_
    rw [hc]
    refine ev_Vn (ci := 3) [.int c] [] ca_Head_putBytes_75 d_Head_putBytes_19 rfl ((S.2 5 m5)) rfl (Nat.le_of_ble_eq_true rfl) (w_put hT S m5 c) (fun h1 z => ?_)
    obtain ⟨σ1, S1, r1, p1, p2⟩ := z
    have p2' : (σ1 6).2.2 = (σ 6).2.2 ++ [c] := by
      have : (σ1 6).2.2 = addR (σ 6).2.2 c := p2
      rw [this]
      exact if_pos (by omega)
    have e2 : (σ1 2).2.2 = (σ 2).2.2 := p1 2 (by decide)
    have hX := S.1.2.2
    refine ev_iinc d_Head_putBytes_22 rfl (by decide) ?_
    refine ev_goto (tgt := 3) d_Head_putBytes_25 (by decide) ?_
    rw [show nI k + Int32.ofInt 1 = nI (k + 1) from nI_1 k]
    refine ev_to (ih (k + 1) h1 σ1 S1 (rwR_obj S.1 r1 hA (by omega) (nrow (by decide))) (by rw [e2]; exact he) (by rw [e2]; exact hd2) (by omega) (by rw [p2', List.length_append]; show _ + 1 + _ < _; omega)) ?_
    rintro o h' ⟨rfl, p⟩
    refine ⟨rfl, tP_tr r1 p1 p (fun s hs => ?_)⟩
    rw [hs, p2', List.append_assoc]
    rfl
theorem w_hput (hT : (gl_t G)[0]? = some (cI, .int)) (S : tS cI X h σ) {hv : List Value} (hA : h.2.2 (X + 4) = some (.inr (2, .ref (X + 5) :: hv))) {s e : Nat} (hse : s ≤ e) (he : e ≤ (σ 2).2.2.length) (he2 : e < 2 ^ 30) (hb : (σ 6).2.2.length + (e - s) < 4096) : ct_E G m_Head_putBytes [.ref (X + 4), .ref (X + 2), .int (nI s), .int (nI e)] h (cn (tP cI X h σ [6] (fun σ' => (σ' 6).2.2 = (σ 6).2.2 ++ ((σ 2).2.2.take e).drop s))) := by
  have hlen : (((σ 2).2.2.take e).drop s).length = e - s := by rw [List.length_drop, List.length_take]; omega
  refine ct_of (ws' := tb_all) rfl rfl (Nat.le_of_ble_eq_true rfl) ?_
  refine ev_iload_n d_Head_putBytes_0 rfl rfl ?_
  refine ev_istore d_Head_putBytes_1 (by decide) ?_
  exact l_hputBytes hT he2 _ s h σ S hA he rfl (by omega) (by omega)
end HEAD2
