/-! the class: addresses, strong: what only looks -/
/-- what is gathered: the words g of W -/
def gaS (σ : rwT) (W g : Wds) : Prop := ∃ ix : List Nat, (σ 31).2.2 = ix.map nI ∧ ix.map (fun i => W[i]?) = g.map some
/-- the words W are cut, g of them gathered -/
def acW (σ : rwT) (W g : Wds) : Prop := wdH σ (W.map wm) [] ∧ gaS σ W g ∧ (∀ w ∈ W, wfW w) ∧ W.length ≤ 1501 ∧ wdB (W.map wm) ≤ 1501
theorem acW_same {σ σ' : rwT} {W g : Wds} (A : acW σ W g) (h : ∀ τ ∈ [12, 14, 16, 31], (σ' τ).2.2 = (σ τ).2.2) : acW σ' W g := by
  obtain ⟨A1, ⟨ix, e1, e2⟩, A3⟩ := A
  exact ⟨⟨txH_same A1.1 (h 12 (by decide)) (h 14 (by decide)), (h 16 (by decide)).trans A1.2⟩, ⟨ix, (h 31 (by decide)).trans e1, e2⟩, A3⟩
theorem ga_len {σ : rwT} {W g : Wds} (H : gaS σ W g) : (σ 31).2.2.length = g.length := by
  obtain ⟨ix, e1, e2⟩ := H
  have := congrArg List.length e2
  rw [List.length_map, List.length_map] at this
  rw [e1, List.length_map, this]
theorem ga_at {σ : rwT} {W g : Wds} (H : gaS σ W g) {p : Nat} (hp : p < 2 ^ 31) {w : Int32 × Int32 × List Int32} (h : g[p]? = some w) : ∃ j, rg (σ 31).2.2 (nI p) = nI j ∧ W[j]? = some w := by
  obtain ⟨ix, e1, e2⟩ := H
  have h1 : (ix.map (fun i => W[i]?))[p]? = some (some w) := by
    rw [e2, List.getElem?_map, h]
    rfl
  rw [List.getElem?_map] at h1
  cases hx : ix[p]? with
  | none => rw [hx] at h1; cases h1
  | some j =>
    rw [hx] at h1
    have h2 : W[j]? = some w := Option.some.inj h1
    refine ⟨j, ?_, h2⟩
    rw [e1, rg_nat hp, List.getD_eq_getElem?_getD, List.getElem?_map, hx]
    rfl
theorem ga_no {σ : rwT} {W g : Wds} (H : gaS σ W g) {p : Nat} (hp : p < 2 ^ 31) (h : g.length ≤ p) : rg (σ 31).2.2 (nI p) = -1 := by
  have := ga_len H
  rw [rg_nat hp, List.getD_eq_getElem?_getD, List.getElem?_eq_none (by omega)]
  rfl
theorem ga_mem {σ : rwT} {W g : Wds} (H : gaS σ W g) {w : Int32 × Int32 × List Int32} (h : w ∈ g) : w ∈ W := by
  obtain ⟨ix, -, e2⟩ := H
  have h1 : some w ∈ g.map some := List.mem_map.mpr ⟨w, h, rfl⟩
  rw [← e2] at h1
  obtain ⟨j, -, hj⟩ := List.mem_map.mp h1
  exact List.mem_of_getElem? hj
theorem ga_kind {σ : rwT} {W g : Wds} (A : acW σ W g) (i : Int32) : rg (σ 16).2.2 (rg (σ 31).2.2 i) = rg (g.map cK) i := by
  by_cases hi : i < 0
  · rw [rg_neg (xs := (σ 31).2.2) hi, rg_neg (xs := g.map cK) hi, rg_neg (i := -1) (by decide)]
  · obtain ⟨p, hp, rfl⟩ := nI_of hi
    rw [rg_nat (xs := g.map cK) hp, List.getD_eq_getElem?_getD, List.getElem?_map]
    cases hx : g[p]? with
    | none =>
      have hle : g.length ≤ p := by
        rcases Nat.lt_or_ge p g.length with q | q
        · rw [List.getElem?_eq_getElem q] at hx; cases hx
        · exact q
      rw [ga_no A.2.1 hp hle, rg_neg (i := -1) (by decide)]
      rfl
    | some w =>
      obtain ⟨j, e1, e2⟩ := ga_at A.2.1 hp hx
      have hj := (List.getElem?_eq_some_iff.mp e2).1
      have hl := A.2.2.2.1
      rw [e1, kd_at A.1 (by omega) j (by omega), e2]
      rfl
theorem gk_at {g : Wds} {p : Nat} (hp : p < 2 ^ 31) {w : Int32 × Int32 × List Int32} (h : g[p]? = some w) : rg (g.map cK) (nI p) = cK w := by
  rw [rg_nat hp, List.getD_eq_getElem?_getD, List.getElem?_map, h]
  rfl
theorem cK_3 {w : Int32 × Int32 × List Int32} (h : wfW w) : cK w = 3 ↔ w.1 = 2 := by
  obtain ⟨h1, h2⟩ := h
  unfold cK
  rcases h1 with e | e | e | e | e <;> rw [e]
  · simp
  · simp
  · simp
  · obtain ⟨ty, hs⟩ := h2 e
    have := (sg_ne hs).2.2.1
    simp [this]
  · simp
theorem cK_4 {w : Int32 × Int32 × List Int32} (h : wfW w) : cK w = 4 ↔ w.1 = 0 := by
  obtain ⟨h1, h2⟩ := h
  unfold cK
  rcases h1 with e | e | e | e | e <;> rw [e]
  · simp
  · simp
  · simp
  · obtain ⟨ty, hs⟩ := h2 e
    have := (sg_ne hs).2.2.2
    simp [this]
  · simp
theorem nK_s {w : Int32 × Int32 × List Int32} (h : wfW w) {c : Int32} (hc : ¬ c = 1 ∧ ¬ c = 2 ∧ ¬ c = 3 ∧ ¬ c = 4) (hf : wIs w c = false) : ¬ cK w = c := fun z => by
  rw [(cK_s h hc).mp z] at hf
  cases hf
theorem sl_dr {g : Wds} {i b : Nat} {w : Int32 × Int32 × List Int32} (hib : i < b) (hb : b ≤ g.length) (h : g[i]? = some w) : ad_sl g i b = w :: ad_sl g (i + 1) b := sl_step hib hb h
/-- the first open one, as the class answers it -/
def opI (g : Wds) (i : Nat) : Int32 := if i + ad_op (g.drop i) < g.length then nI (i + ad_op (g.drop i)) else -1
section ACL
variable {G : gl_G} {cI : ClassId} {X : Nat}
theorem ac_wf {σ : rwT} {W g : Wds} (A : acW σ W g) {p : Nat} {w : Int32 × Int32 × List Int32} (h : g[p]? = some w) : wfW w := A.2.2.1 w (ga_mem A.2.1 (List.mem_of_getElem? h))
theorem ac_le {σ : rwT} {h : hp_T} {W g : Wds} (S : tS cI X h σ) (A : acW σ W g) : g.length ≤ 4096 := by
  rw [← ga_len A.2.1]
  exact row_le S (by decide)
theorem z_kindAt (hT : (gl_t G)[0]? = some (cI, .int)) {h : hp_T} {σ : rwT} (S : tS cI X h σ) (O : aO X h) {W g : Wds} (A : acW σ W g) (i : Int32) : ct_E G m_Addresses_kindAt [.ref (X + 18), .int i] h (cv (.int (rg (g.map cK) i)) h) := by
  have m16 : (16 : Nat) ∈ rws := by decide
  have m31 : (31 : Nat) ∈ rws := by decide
  obtain ⟨⟨a, b, c, hA⟩, r, hW⟩ := id O
  refine ct_of (ws' := tb_all) rfl rfl (Nat.le_of_ble_eq_true rfl) ?_
  refine ev_aload_n d_Addresses_kindAt_0 rfl rfl ?_
  refine ev_get (fa_Addresses_9 rfl rfl) d_Addresses_kindAt_1 hA rfl ?_
  refine ev_Vv (ci := 4) [] [] ca_Addresses_kindAt_66 d_Addresses_kindAt_4 rfl (hW) rfl (Nat.le_of_ble_eq_true rfl) (w_wkinds hW) ?_
  refine ev_aload_n d_Addresses_kindAt_7 rfl rfl ?_
  refine ev_get (fa_Addresses_32 rfl rfl) d_Addresses_kindAt_8 hA rfl ?_
  refine ev_iload_n d_Addresses_kindAt_11 rfl rfl ?_
  refine ev_Vv (ci := 1) [.int i] [.ref (X + 16)] ca_Addresses_kindAt_49 d_Addresses_kindAt_12 rfl ((S.1.1 _ m31).1.1) rfl (Nat.le_of_ble_eq_true rfl) (w_get hT S.1 m31 i) ?_
  refine ev_Vv (ci := 1) [.int _] [] ca_Addresses_kindAt_49 d_Addresses_kindAt_15 rfl ((S.1.1 _ m16).1.1) rfl (Nat.le_of_ble_eq_true rfl) (w_get hT S.1 m16 _) ?_
  rw [ga_kind A i]
  refine ev_iret d_Addresses_kindAt_18 rfl ?_
  exact ⟨rfl, rfl⟩
theorem lz_firstOpen (hT : (gl_t G)[0]? = some (cI, .int)) {h : hp_T} {σ : rwT} (S : tS cI X h σ) (O : aO X h) {W g : Wds} (A : acW σ W g) : ∀ (d i : Nat), i + d = g.length → ev_E G m_Addresses_firstOpen 2 [(0, .ref (X + 18)), (1, .int (nI i))] [] h (cv (.int (opI g i)) h) := by
  have m31 : (31 : Nat) ∈ rws := by decide
  have hgl := ac_le S A
  obtain ⟨⟨a, b, c, hA⟩, r, hW⟩ := id O
  intro d
  induction d with
  | zero =>
    intro i hd
    refine ev_iload_n d_Addresses_firstOpen_2 rfl rfl ?_
    refine ev_aload_n d_Addresses_firstOpen_3 rfl rfl ?_
    refine ev_get (fa_Addresses_32 rfl rfl) d_Addresses_firstOpen_4 hA rfl ?_
    refine ev_Vv (ci := 1) [] [.int (nI i)] ca_Addresses_firstOpen_45 d_Addresses_firstOpen_7 rfl ((S.1.1 _ m31).1.1) rfl (Nat.le_of_ble_eq_true rfl) (w_size S.1 m31) ?_
    rw [ga_len A.2.1]
    refine ev_icmp_ge (tgt := 31) d_Addresses_firstOpen_10 (by decide) (fun _ => ?_) (fun z => absurd (nI_le (by omega) (by omega)) z)
    refine ev_iconst (v := (-1)) d_Addresses_firstOpen_31 (by decide) ?_
    refine ev_iret d_Addresses_firstOpen_32 rfl ?_
    rw [opI, if_neg (by omega)]
    exact ⟨rfl, rfl⟩
  | succ d ih =>
    intro i hd
    have qi : g[i]? = some g[i] := List.getElem?_eq_getElem (by omega)
    generalize g[i] = w at qi
    have hwf := ac_wf A qi
    refine ev_iload_n d_Addresses_firstOpen_2 rfl rfl ?_
    refine ev_aload_n d_Addresses_firstOpen_3 rfl rfl ?_
    refine ev_get (fa_Addresses_32 rfl rfl) d_Addresses_firstOpen_4 hA rfl ?_
    refine ev_Vv (ci := 1) [] [.int (nI i)] ca_Addresses_firstOpen_45 d_Addresses_firstOpen_7 rfl ((S.1.1 _ m31).1.1) rfl (Nat.le_of_ble_eq_true rfl) (w_size S.1 m31) ?_
    rw [ga_len A.2.1]
    refine ev_icmp_ge (tgt := 31) d_Addresses_firstOpen_10 (by decide) (fun z => absurd z (nI_ge (by omega) (by omega))) (fun _ => ?_)
    refine ev_aload_n d_Addresses_firstOpen_13 rfl rfl ?_
    refine ev_iload_n d_Addresses_firstOpen_14 rfl rfl ?_
    refine ev_Vv (ci := 5) [.int (nI i)] [] ca_Addresses_firstOpen_100 d_Addresses_firstOpen_15 rfl (hA) rfl (Nat.le_of_ble_eq_true rfl) (z_kindAt hT S O A (nI i)) ?_
    rw [gk_at (by omega) qi]
    refine ev_bipush (v := 60) d_Addresses_firstOpen_18 (by decide) ?_
    cases h60 : wIs w 60 with
    | true =>
      refine ev_icmp_ne (tgt := 25) d_Addresses_firstOpen_20 (by decide) (fun z => absurd ((cK_s hwf (by decide)).mpr h60) z) (fun _ => ?_)
      refine ev_iload_n d_Addresses_firstOpen_23 rfl rfl ?_
      refine ev_iret d_Addresses_firstOpen_24 rfl ?_
      have e : opI g i = nI i := by
        unfold opI
        rw [go_dr qi, ad_op, h60, cond_true, Nat.add_zero, if_pos (by omega)]
      rw [e]
      exact ⟨rfl, rfl⟩
    | false =>
      refine ev_icmp_ne (tgt := 25) d_Addresses_firstOpen_20 (by decide) (fun _ => ?_) (fun z => absurd z (nK_s hwf (by decide) h60))
      refine ev_iinc d_Addresses_firstOpen_25 rfl (by decide) ?_
      refine ev_goto (tgt := 2) d_Addresses_firstOpen_28 (by decide) ?_
      have e : opI g i = opI g (i + 1) := by
        unfold opI
        rw [go_dr qi, ad_op, h60, cond_false, show i + (ad_op (g.drop (i + 1)) + 1) = i + 1 + ad_op (g.drop (i + 1)) by omega]
      rw [e]
      refine ev_as [(0, .ref (X + 18)), (1, .int (nI (i + 1)))] ⟨rfl, ?_, trivial⟩ (ih (i + 1) (by omega))
      show some (Value.int (nI i + Int32.ofInt 1)) = _
      rw [show nI i + Int32.ofInt 1 = nI (i + 1) from nI_1 i]
theorem z_firstOpen (hT : (gl_t G)[0]? = some (cI, .int)) {h : hp_T} {σ : rwT} (S : tS cI X h σ) (O : aO X h) {W g : Wds} (A : acW σ W g) : ct_E G m_Addresses_firstOpen [.ref (X + 18)] h (cv (.int (if ad_op g < g.length then nI (ad_op g) else -1)) h) := by
  refine ct_of (ws' := tb_all) rfl rfl (Nat.le_of_ble_eq_true rfl) ?_
  refine ev_iconst (v := 0) d_Addresses_firstOpen_0 (by decide) ?_
  refine ev_istore_n d_Addresses_firstOpen_1 rfl (by decide) ?_
  have k9 := lz_firstOpen (G := G) hT S O A g.length 0 (by omega)
  unfold opI at k9
  rw [List.drop_zero, Nat.zero_add] at k9
  exact k9
theorem lz_isName (hT : (gl_t G)[0]? = some (cI, .int)) {h : hp_T} {σ : rwT} (S : tS cI X h σ) (O : aO X h) {W g : Wds} (A : acW σ W g) {n : Nat} (hn : n ≤ g.length) : ∀ (d i : Nat), i + d = n → ev_E G m_Addresses_isName 2 [(0, .ref (X + 18)), (1, .int (nI n)), (2, .int (nI i))] [] h (cv (.int (bI (ad_all (ad_sl g i n)))) h) := by
  have hgl := ac_le S A
  obtain ⟨⟨a, b, c, hA⟩, r, hW⟩ := id O
  intro d
  induction d with
  | zero =>
    intro i hd
    rw [sl_nil (show n ≤ i by omega)]
    refine ev_iload_n d_Addresses_isName_2 rfl rfl ?_
    refine ev_iload_n d_Addresses_isName_3 rfl rfl ?_
    refine ev_icmp_ge (tgt := 37) d_Addresses_isName_4 (by decide) (fun _ => ?_) (fun z => absurd (nI_le (by omega) (by omega)) z)
    refine ev_iconst (v := 1) d_Addresses_isName_37 (by decide) ?_
    refine ev_zret d_Addresses_isName_38 rfl rfl ?_
    exact ⟨rfl, rfl⟩
  | succ d ih =>
    intro i hd
    have qi : g[i]? = some g[i] := List.getElem?_eq_getElem (by omega)
    generalize g[i] = w at qi
    have hwf := ac_wf A qi
    rw [sl_dr (show i < n by omega) hn qi, ad_all]
    refine ev_iload_n d_Addresses_isName_2 rfl rfl ?_
    refine ev_iload_n d_Addresses_isName_3 rfl rfl ?_
    refine ev_icmp_ge (tgt := 37) d_Addresses_isName_4 (by decide) (fun z => absurd z (nI_ge (by omega) (by omega))) (fun _ => ?_)
    refine ev_aload_n d_Addresses_isName_7 rfl rfl ?_
    refine ev_iload_n d_Addresses_isName_8 rfl rfl ?_
    refine ev_Vv (ci := 5) [.int (nI i)] [] ca_Addresses_isName_100 d_Addresses_isName_9 rfl (hA) rfl (Nat.le_of_ble_eq_true rfl) (z_kindAt hT S O A (nI i)) ?_
    rw [gk_at (by omega) qi]
    have on : ad_isN w = true → ev_E G m_Addresses_isName 31 [(0, .ref (X + 18)), (1, .int (nI n)), (2, .int (nI i)), (3, .int (cK w))] [] h (cv (.int (bI (ad_isN w && ad_all (ad_sl g (i + 1) n)))) h) := by
      intro hN
      rw [hN, Bool.true_and]
      refine ev_iinc d_Addresses_isName_31 rfl (by decide) ?_
      refine ev_goto (tgt := 2) d_Addresses_isName_34 (by decide) ?_
      refine ev_as [(0, .ref (X + 18)), (1, .int (nI n)), (2, .int (nI (i + 1)))] ⟨rfl, rfl, ?_, trivial⟩ (ih (i + 1) (by omega))
      show some (Value.int (nI i + Int32.ofInt 1)) = _
      rw [show nI i + Int32.ofInt 1 = nI (i + 1) from nI_1 i]
    refine ev_istore_n d_Addresses_isName_12 rfl (by decide) ?_
    refine ev_iload_n d_Addresses_isName_13 rfl rfl ?_
    refine ev_iconst (v := 1) d_Addresses_isName_14 (by decide) ?_
    by_cases k1 : w.1 = 4
    · refine ev_icmp_eq (tgt := 31) d_Addresses_isName_15 (by decide) (fun _ => ?_) (fun z => absurd ((cK_1 hwf).mpr k1) z)
      exact on (by simp [ad_isN, k1])
    · refine ev_icmp_eq (tgt := 31) d_Addresses_isName_15 (by decide) (fun z => absurd ((cK_1 hwf).mp z) k1) (fun _ => ?_)
      refine ev_iload_n d_Addresses_isName_18 rfl rfl ?_
      refine ev_iconst (v := 2) d_Addresses_isName_19 (by decide) ?_
      by_cases k2 : w.1 = 1
      · refine ev_icmp_eq (tgt := 31) d_Addresses_isName_20 (by decide) (fun _ => ?_) (fun z => absurd ((cK_2 hwf).mpr k2) z)
        exact on (by simp [ad_isN, k2])
      · refine ev_icmp_eq (tgt := 31) d_Addresses_isName_20 (by decide) (fun z => absurd ((cK_2 hwf).mp z) k2) (fun _ => ?_)
        refine ev_iload_n d_Addresses_isName_23 rfl rfl ?_
        refine ev_bipush (v := 46) d_Addresses_isName_24 (by decide) ?_
        cases h46 : wIs w 46 with
        | true =>
          refine ev_icmp_eq (tgt := 31) d_Addresses_isName_26 (by decide) (fun _ => ?_) (fun z => absurd ((cK_s hwf (by decide)).mpr h46) z)
          exact on (by simp [ad_isN, h46])
        | false =>
          refine ev_icmp_eq (tgt := 31) d_Addresses_isName_26 (by decide) (fun z => absurd z (nK_s hwf (by decide) h46)) (fun _ => ?_)
          refine ev_iconst (v := 0) d_Addresses_isName_29 (by decide) ?_
          refine ev_zret d_Addresses_isName_30 rfl rfl ?_
          rw [show ad_isN w = false by simp [ad_isN, h46, k1, k2], Bool.false_and]
          exact ⟨rfl, rfl⟩
theorem z_isName (hT : (gl_t G)[0]? = some (cI, .int)) {h : hp_T} {σ : rwT} (S : tS cI X h σ) (O : aO X h) {W g : Wds} (A : acW σ W g) {n : Nat} (hn : n ≤ g.length) : ct_E G m_Addresses_isName [.ref (X + 18), .int (nI n)] h (cv (.int (bI (ad_all (g.take n)))) h) := by
  refine ct_of (ws' := tb_all) rfl rfl (Nat.le_of_ble_eq_true rfl) ?_
  refine ev_iconst (v := 0) d_Addresses_isName_0 (by decide) ?_
  refine ev_istore_n d_Addresses_isName_1 rfl (by decide) ?_
  exact lz_isName hT S O A hn n 0 (by omega)
theorem lz_behindRoute (hT : (gl_t G)[0]? = some (cI, .int)) {h : hp_T} {σ : rwT} (S : tS cI X h σ) (O : aO X h) {W g : Wds} (A : acW σ W g) {f n : Nat} (hn : n ≤ g.length) : ∀ (d i : Nat), i + d = n → ev_E G m_Addresses_behindRoute 2 [(0, .ref (X + 18)), (1, .int (nI f)), (2, .int (nI n)), (3, .int (nI i))] [] h (cv (.int (match ad_rN (ad_sl g i n) with
      | some m => nI (i + m)
      | none => nI f)) h) := by
  have hgl := ac_le S A
  obtain ⟨⟨a, b, c, hA⟩, r, hW⟩ := id O
  intro d
  induction d with
  | zero =>
    intro i hd
    rw [sl_nil (show n ≤ i by omega)]
    refine ev_iload_n d_Addresses_behindRoute_2 rfl rfl ?_
    refine ev_iload_n d_Addresses_behindRoute_3 rfl rfl ?_
    refine ev_icmp_ge (tgt := 60) d_Addresses_behindRoute_4 (by decide) (fun _ => ?_) (fun z => absurd (nI_le (by omega) (by omega)) z)
    refine ev_iload_n d_Addresses_behindRoute_60 rfl rfl ?_
    refine ev_iret d_Addresses_behindRoute_61 rfl ?_
    exact ⟨rfl, rfl⟩
  | succ d ih =>
    intro i hd
    have qi : g[i]? = some g[i] := List.getElem?_eq_getElem (by omega)
    generalize g[i] = w at qi
    have hwf := ac_wf A qi
    rw [sl_dr (show i < n by omega) hn qi, ad_rN]
    refine ev_iload_n d_Addresses_behindRoute_2 rfl rfl ?_
    refine ev_iload_n d_Addresses_behindRoute_3 rfl rfl ?_
    refine ev_icmp_ge (tgt := 60) d_Addresses_behindRoute_4 (by decide) (fun z => absurd z (nI_ge (by omega) (by omega))) (fun _ => ?_)
    refine ev_aload_n d_Addresses_behindRoute_7 rfl rfl ?_
    refine ev_iload_n d_Addresses_behindRoute_8 rfl rfl ?_
    refine ev_Vv (ci := 5) [.int (nI i)] [] ca_Addresses_behindRoute_100 d_Addresses_behindRoute_9 rfl (hA) rfl (Nat.le_of_ble_eq_true rfl) (z_kindAt hT S O A (nI i)) ?_
    rw [gk_at (by omega) qi]
    have on : wIs w 58 = false → (decide (w.1 = 4) || (wIs w 64 || (wIs w 44 || wIs w 46))) = true → ev_E G m_Addresses_behindRoute 54 [(0, .ref (X + 18)), (1, .int (nI f)), (2, .int (nI n)), (3, .int (nI i)), (4, .int (cK w))] [] h (cv (.int (match (bif wIs w 58 then some 1 else bif decide (w.1 = 4) || (wIs w 64 || (wIs w 44 || wIs w 46)) then (ad_rN (ad_sl g (i + 1) n)).map (fun n => n + 1) else none) with
        | some m => nI (i + m)
        | none => nI f)) h) := by
      intro h58 hrt
      rw [h58, hrt, cond_false, cond_true]
      have e : (match (ad_rN (ad_sl g (i + 1) n)).map (fun n => n + 1) with
        | some m => nI (i + m)
        | none => nI f) = (match ad_rN (ad_sl g (i + 1) n) with
        | some m => nI (i + 1 + m)
        | none => nI f) := by
        cases ad_rN (ad_sl g (i + 1) n) with
        | none => rfl
        | some m =>
          show nI (i + (m + 1)) = nI (i + 1 + m)
          rw [show i + (m + 1) = i + 1 + m by omega]
      rw [e]
      refine ev_iinc d_Addresses_behindRoute_54 rfl (by decide) ?_
      refine ev_goto (tgt := 2) d_Addresses_behindRoute_57 (by decide) ?_
      refine ev_as [(0, .ref (X + 18)), (1, .int (nI f)), (2, .int (nI n)), (3, .int (nI (i + 1)))] ⟨rfl, rfl, rfl, ?_, trivial⟩ (ih (i + 1) (by omega))
      show some (Value.int (nI i + Int32.ofInt 1)) = _
      rw [show nI i + Int32.ofInt 1 = nI (i + 1) from nI_1 i]
    refine ev_istore d_Addresses_behindRoute_12 (by decide) ?_
    refine ev_iload d_Addresses_behindRoute_14 rfl ?_
    refine ev_bipush (v := 58) d_Addresses_behindRoute_16 (by decide) ?_
    cases h58 : wIs w 58 with
    | true =>
      refine ev_icmp_ne (tgt := 25) d_Addresses_behindRoute_18 (by decide) (fun z => absurd ((cK_s hwf (by decide)).mpr h58) z) (fun _ => ?_)
      refine ev_iload_n d_Addresses_behindRoute_21 rfl rfl ?_
      refine ev_iconst (v := 1) d_Addresses_behindRoute_22 (by decide) ?_
      refine ev_iadd d_Addresses_behindRoute_23 ?_
      refine ev_iret d_Addresses_behindRoute_24 rfl ?_
      rw [nI_1]
      exact ⟨rfl, rfl⟩
    | false =>
      rw [h58] at on
      refine ev_icmp_ne (tgt := 25) d_Addresses_behindRoute_18 (by decide) (fun _ => ?_) (fun z => absurd z (nK_s hwf (by decide) h58))
      refine ev_iload d_Addresses_behindRoute_25 rfl ?_
      refine ev_bipush (v := 64) d_Addresses_behindRoute_27 (by decide) ?_
      cases h64 : wIs w 64 with
      | true =>
        refine ev_icmp_eq (tgt := 54) d_Addresses_behindRoute_29 (by decide) (fun _ => ?_) (fun z => absurd ((cK_s hwf (by decide)).mpr h64) z)
        have k9 := on rfl (by simp [h64])
        rw [h64] at k9
        exact k9
      | false =>
        refine ev_icmp_eq (tgt := 54) d_Addresses_behindRoute_29 (by decide) (fun z => absurd z (nK_s hwf (by decide) h64)) (fun _ => ?_)
        refine ev_iload d_Addresses_behindRoute_32 rfl ?_
        refine ev_bipush (v := 44) d_Addresses_behindRoute_34 (by decide) ?_
        cases h44 : wIs w 44 with
        | true =>
          refine ev_icmp_eq (tgt := 54) d_Addresses_behindRoute_36 (by decide) (fun _ => ?_) (fun z => absurd ((cK_s hwf (by decide)).mpr h44) z)
          have k9 := on rfl (by simp [h44])
          rw [h64, h44] at k9
          exact k9
        | false =>
          refine ev_icmp_eq (tgt := 54) d_Addresses_behindRoute_36 (by decide) (fun z => absurd z (nK_s hwf (by decide) h44)) (fun _ => ?_)
          refine ev_iload d_Addresses_behindRoute_39 rfl ?_
          refine ev_bipush (v := 46) d_Addresses_behindRoute_41 (by decide) ?_
          cases h46 : wIs w 46 with
          | true =>
            refine ev_icmp_eq (tgt := 54) d_Addresses_behindRoute_43 (by decide) (fun _ => ?_) (fun z => absurd ((cK_s hwf (by decide)).mpr h46) z)
            have k9 := on rfl (by simp [h46])
            rw [h64, h44, h46] at k9
            exact k9
          | false =>
            refine ev_icmp_eq (tgt := 54) d_Addresses_behindRoute_43 (by decide) (fun z => absurd z (nK_s hwf (by decide) h46)) (fun _ => ?_)
            refine ev_iload d_Addresses_behindRoute_46 rfl ?_
            refine ev_iconst (v := 1) d_Addresses_behindRoute_48 (by decide) ?_
            by_cases k1 : w.1 = 4
            · refine ev_icmp_eq (tgt := 54) d_Addresses_behindRoute_49 (by decide) (fun _ => ?_) (fun z => absurd ((cK_1 hwf).mpr k1) z)
              have k9 := on rfl (by simp [k1])
              rw [h64, h44, h46] at k9
              exact k9
            · refine ev_icmp_eq (tgt := 54) d_Addresses_behindRoute_49 (by decide) (fun z => absurd ((cK_1 hwf).mp z) k1) (fun _ => ?_)
              refine ev_iload_n d_Addresses_behindRoute_52 rfl rfl ?_
              refine ev_iret d_Addresses_behindRoute_53 rfl ?_
              rw [decide_eq_false k1]
              exact ⟨rfl, rfl⟩
theorem z_behindRoute (hT : (gl_t G)[0]? = some (cI, .int)) {h : hp_T} {σ : rwT} (S : tS cI X h σ) (O : aO X h) {W g : Wds} (A : acW σ W g) {f n : Nat} (hf : f ≤ n) (hn : n ≤ g.length) : ct_E G m_Addresses_behindRoute [.ref (X + 18), .int (nI f), .int (nI n)] h (cv (.int (nI (f + (ad_rN (ad_sl g f n)).getD 0))) h) := by
  refine ct_of (ws' := tb_all) rfl rfl (Nat.le_of_ble_eq_true rfl) ?_
  refine ev_iload_n d_Addresses_behindRoute_0 rfl rfl ?_
  refine ev_istore_n d_Addresses_behindRoute_1 rfl (by decide) ?_
  have k9 := lz_behindRoute (G := G) hT S O A (f := f) hn (n - f) f (by omega)
  cases hx : ad_rN (ad_sl g f n) with
  | none => rw [hx] at k9; exact k9
  | some m => rw [hx] at k9; exact k9
/-- where a row with . between ends, as the class answers it -/
def dEI (q : Bool) (i : Nat) (s : Wds) : Int32 := match ad_dE q s with
  | some m => nI (i + m)
  | none => -1
theorem lz_dottedEnd (hT : (gl_t G)[0]? = some (cI, .int)) {h : hp_T} {σ : rwT} (S : tS cI X h σ) (O : aO X h) {W g : Wds} (A : acW σ W g) {n : Nat} (hn : n ≤ g.length) {q : Bool} {f : Int32} : ∀ (d i : Nat), n ≤ i + d → i ≤ n + 1 → ev_E G m_Addresses_dottedEnd 3 [(0, .ref (X + 18)), (1, .int f), (2, .int (nI n)), (3, .int (bI q)), (4, .int (nI i))] [] h (cv (.int (dEI q i (ad_sl g i n))) h) := by
  have hgl := ac_le S A
  obtain ⟨⟨a, b, c, hA⟩, r, hW⟩ := id O
  have out : ∀ i : Nat, n ≤ i → i ≤ n + 1 → ev_E G m_Addresses_dottedEnd 3 [(0, .ref (X + 18)), (1, .int f), (2, .int (nI n)), (3, .int (bI q)), (4, .int (nI i))] [] h (cv (.int (dEI q i (ad_sl g i n))) h) := by
    intro i h1 h2
    rw [sl_nil h1]
    refine ev_iload d_Addresses_dottedEnd_3 rfl ?_
    refine ev_iload_n d_Addresses_dottedEnd_5 rfl rfl ?_
    refine ev_icmp_ge (tgt := 67) d_Addresses_dottedEnd_6 (by decide) (fun _ => ?_) (fun z => absurd (nI_le (by omega) (by omega)) z)
    refine ev_iconst (v := (-1)) d_Addresses_dottedEnd_67 (by decide) ?_
    refine ev_iret d_Addresses_dottedEnd_68 rfl ?_
    exact ⟨rfl, rfl⟩
  intro d
  induction d using Nat.strongRecOn with
  | ind d ih =>
    intro i hd hi
    rcases Nat.lt_or_ge i n with hin | hin
    · have qi : g[i]? = some g[i] := List.getElem?_eq_getElem (by omega)
      generalize g[i] = w at qi
      have hwf := ac_wf A qi
      rw [sl_dr hin hn qi]
      refine ev_iload d_Addresses_dottedEnd_3 rfl ?_
      refine ev_iload_n d_Addresses_dottedEnd_5 rfl rfl ?_
      refine ev_icmp_ge (tgt := 67) d_Addresses_dottedEnd_6 (by decide) (fun z => absurd z (nI_ge (by omega) (by omega))) (fun _ => ?_)
      refine ev_aload_n d_Addresses_dottedEnd_9 rfl rfl ?_
      refine ev_iload d_Addresses_dottedEnd_10 rfl ?_
      refine ev_Vv (ci := 5) [.int (nI i)] [] ca_Addresses_dottedEnd_100 d_Addresses_dottedEnd_12 rfl (hA) rfl (Nat.le_of_ble_eq_true rfl) (z_kindAt hT S O A (nI i)) ?_
      rw [gk_at (by omega) qi]
      have no : ad_rw q w = false → ev_E G m_Addresses_dottedEnd 33 [(0, .ref (X + 18)), (1, .int f), (2, .int (nI n)), (3, .int (bI q)), (4, .int (nI i)), (5, .int (cK w))] [] h (cv (.int (dEI q i (w :: ad_sl g (i + 1) n))) h) := by
        intro hrw
        have e : dEI q i (w :: ad_sl g (i + 1) n) = -1 := by
          unfold dEI
          cases ad_sl g (i + 1) n with
          | nil => rw [ad_dE, hrw]; rfl
          | cons x t => rw [ad_dE, hrw]; rfl
        rw [e]
        refine ev_iconst (v := (-1)) d_Addresses_dottedEnd_33 (by decide) ?_
        refine ev_iret d_Addresses_dottedEnd_34 rfl ?_
        exact ⟨rfl, rfl⟩
      have en : dEI q i (w :: ad_sl g (i + 1) n) = nI (i + 1) → ev_E G m_Addresses_dottedEnd 56 [(0, .ref (X + 18)), (1, .int f), (2, .int (nI n)), (3, .int (bI q)), (4, .int (nI i)), (5, .int (cK w))] [] h (cv (.int (dEI q i (w :: ad_sl g (i + 1) n))) h) := by
        intro e
        rw [e]
        refine ev_iload d_Addresses_dottedEnd_56 rfl ?_
        refine ev_iconst (v := 1) d_Addresses_dottedEnd_58 (by decide) ?_
        refine ev_iadd d_Addresses_dottedEnd_59 ?_
        rw [nI_1]
        refine ev_iret d_Addresses_dottedEnd_60 rfl ?_
        exact ⟨rfl, rfl⟩
      have a35 : ad_rw q w = true → ev_E G m_Addresses_dottedEnd 35 [(0, .ref (X + 18)), (1, .int f), (2, .int (nI n)), (3, .int (bI q)), (4, .int (nI i)), (5, .int (cK w))] [] h (cv (.int (dEI q i (w :: ad_sl g (i + 1) n))) h) := by
        intro hrw
        refine ev_iload d_Addresses_dottedEnd_35 rfl ?_
        refine ev_iconst (v := 1) d_Addresses_dottedEnd_37 (by decide) ?_
        refine ev_iadd d_Addresses_dottedEnd_38 ?_
        rw [nI_1]
        refine ev_iload_n d_Addresses_dottedEnd_39 rfl rfl ?_
        rcases Nat.lt_or_ge (i + 1) n with hi1 | hi1
        · have qd : g[i + 1]? = some g[i + 1] := List.getElem?_eq_getElem (by omega)
          generalize g[i + 1] = wd at qd
          have hwd := ac_wf A qd
          refine ev_icmp_ge (tgt := 56) d_Addresses_dottedEnd_40 (by decide) (fun z => absurd z (nI_ge (by omega) (by omega))) (fun _ => ?_)
          rw [sl_dr hi1 hn qd] at en ⊢
          refine ev_aload_n d_Addresses_dottedEnd_43 rfl rfl ?_
          refine ev_iload d_Addresses_dottedEnd_44 rfl ?_
          refine ev_iconst (v := 1) d_Addresses_dottedEnd_46 (by decide) ?_
          refine ev_iadd d_Addresses_dottedEnd_47 ?_
          rw [nI_1]
          refine ev_Vv (ci := 5) [.int (nI (i + 1))] [] ca_Addresses_dottedEnd_100 d_Addresses_dottedEnd_48 rfl (hA) rfl (Nat.le_of_ble_eq_true rfl) (z_kindAt hT S O A (nI (i + 1))) ?_
          rw [gk_at (by omega) qd]
          refine ev_bipush (v := 46) d_Addresses_dottedEnd_51 (by decide) ?_
          cases h46 : wIs wd 46 with
          | true =>
            refine ev_icmp_eq (tgt := 61) d_Addresses_dottedEnd_53 (by decide) (fun _ => ?_) (fun z => absurd ((cK_s hwd (by decide)).mpr h46) z)
            have e : dEI q i (w :: wd :: ad_sl g (i + 1 + 1) n) = dEI q (i + 2) (ad_sl g (i + 2) n) := by
              unfold dEI
              rw [ad_dE, hrw, h46, cond_true, cond_true]
              cases ad_dE q (ad_sl g (i + 1 + 1) n) with
              | none => rfl
              | some m =>
                show nI (i + (m + 2)) = nI (i + 2 + m)
                rw [show i + (m + 2) = i + 2 + m by omega]
            rw [e]
            refine ev_iinc d_Addresses_dottedEnd_61 rfl (by decide) ?_
            refine ev_goto (tgt := 3) d_Addresses_dottedEnd_64 (by decide) ?_
            refine ev_as [(0, .ref (X + 18)), (1, .int f), (2, .int (nI n)), (3, .int (bI q)), (4, .int (nI (i + 2)))] ⟨rfl, rfl, rfl, rfl, ?_, trivial⟩ (ih (d - 2) (by omega) (i + 2) (by omega) (by omega))
            show some (Value.int (nI i + Int32.ofInt 2)) = _
            rw [show nI i + Int32.ofInt 2 = nI (i + 2) from nI_add i 2]
          | false =>
            refine ev_icmp_eq (tgt := 61) d_Addresses_dottedEnd_53 (by decide) (fun z => absurd z (nK_s hwd (by decide) h46)) (fun _ => ?_)
            exact en (by unfold dEI; rw [ad_dE, hrw, h46]; rfl)
        · refine ev_icmp_ge (tgt := 56) d_Addresses_dottedEnd_40 (by decide) (fun _ => ?_) (fun z => absurd (nI_le (by omega) (by omega)) z)
          exact en (by unfold dEI; rw [sl_nil hi1, ad_dE, hrw]; rfl)
      refine ev_istore d_Addresses_dottedEnd_15 (by decide) ?_
      refine ev_iload d_Addresses_dottedEnd_17 rfl ?_
      refine ev_iconst (v := 1) d_Addresses_dottedEnd_19 (by decide) ?_
      by_cases k1 : w.1 = 4
      · refine ev_icmp_eq (tgt := 35) d_Addresses_dottedEnd_20 (by decide) (fun _ => ?_) (fun z => absurd ((cK_1 hwf).mpr k1) z)
        exact a35 (by simp [ad_rw, k1])
      · refine ev_icmp_eq (tgt := 35) d_Addresses_dottedEnd_20 (by decide) (fun z => absurd ((cK_1 hwf).mp z) k1) (fun _ => ?_)
        refine ev_iload_n d_Addresses_dottedEnd_23 rfl rfl ?_
        cases q with
        | false =>
          refine ev_if_eq (tgt := 33) d_Addresses_dottedEnd_24 (by decide) (fun _ => ?_) (fun z => absurd rfl z)
          exact no (by simp [ad_rw, k1])
        | true =>
          refine ev_if_eq (tgt := 33) d_Addresses_dottedEnd_24 (by decide) (fun z => absurd (show (1 : Int32) = 0 from z) (by decide)) (fun _ => ?_)
          refine ev_iload d_Addresses_dottedEnd_27 rfl ?_
          refine ev_iconst (v := 2) d_Addresses_dottedEnd_29 (by decide) ?_
          by_cases k2 : w.1 = 1
          · refine ev_icmp_eq (tgt := 35) d_Addresses_dottedEnd_30 (by decide) (fun _ => ?_) (fun z => absurd ((cK_2 hwf).mpr k2) z)
            exact a35 (by simp [ad_rw, k2])
          · refine ev_icmp_eq (tgt := 35) d_Addresses_dottedEnd_30 (by decide) (fun z => absurd ((cK_2 hwf).mp z) k2) (fun _ => ?_)
            exact no (by simp [ad_rw, k1, k2])
    · exact out i hin hi
theorem z_dottedEnd (hT : (gl_t G)[0]? = some (cI, .int)) {h : hp_T} {σ : rwT} (S : tS cI X h σ) (O : aO X h) {W g : Wds} (A : acW σ W g) {f n : Nat} (hf : f ≤ n + 1) (hn : n ≤ g.length) (q : Bool) : ct_E G m_Addresses_dottedEnd [.ref (X + 18), .int (nI f), .int (nI n), .int (bI q)] h (cv (.int (dEI q f (ad_sl g f n))) h) := by
  refine ct_of (ws' := tb_all) rfl rfl (Nat.le_of_ble_eq_true rfl) ?_
  refine ev_iload_n d_Addresses_dottedEnd_0 rfl rfl ?_
  refine ev_istore d_Addresses_dottedEnd_1 (by decide) ?_
  exact lz_dottedEnd hT S O A hn n f (by omega) hf
/-- a domain, as the class looks at it -/
theorem dom_cls : ∀ (D : Wds) (i : Nat), i + D.length < 2 ^ 31 → ad_dom D = (decide (D.length = 1 ∧ (D[0]?).map (fun w => w.1) = some 2) || decide (dEI false i D = nI (i + D.length)))
  | [], i, hi => by
    have h1 : ¬ (-1 : Int32) = nI (i + ([] : Wds).length) := fun z => nI_pos (n := i + ([] : Wds).length) hi (by rw [← z]; decide)
    have h2 : ¬ (([] : Wds).length = 1 ∧ (([] : Wds)[0]?).map (fun w => w.1) = some 2) := fun z => absurd z.1 (by decide)
    rw [decide_eq_false h2, show dEI false i [] = -1 from rfl, decide_eq_false h1]
    rfl
  | w :: t, i, hi => by
    rw [ad_dom]
    have hm : ∀ z : Nat, (-1 : Int32) ≠ nI (i + (w :: t).length) := fun _ z => nI_pos (n := i + (w :: t).length) hi (by rw [← z]; decide)
    by_cases h2 : w.1 = 2
    · rw [if_pos h2]
      cases t with
      | nil => simp [h2]
      | cons x u =>
        have e : dEI false i (w :: x :: u) = -1 := by
          unfold dEI
          rw [ad_dE, show ad_rw false w = false by simp [ad_rw, h2]]
          rfl
        rw [e, decide_eq_false (hm 0), decide_eq_false (fun z => by simp at z)]
        rfl
    · rw [if_neg h2, decide_eq_false (p := (w :: t).length = 1 ∧ _) (fun z => h2 (by simpa using z.2)), Bool.false_or]
      have hle := ad_rE_le false (w :: t)
      unfold dEI
      rw [ad_dE_eq]
      unfold ad_dF
      by_cases hz : ad_rE false (w :: t) = 0
      · rw [if_pos hz, decide_eq_false (hm 0), decide_eq_false (by rw [hz]; simp)]
      · rw [if_neg hz]
        by_cases hf : ad_rE false (w :: t) = t.length + 1
        · rw [hf, List.getElem?_eq_none (by simp), decide_eq_true rfl]
          exact (decide_eq_true rfl).symm
        · rw [decide_eq_false hf]
          rw [List.length_cons] at hle
          cases hx : (w :: t)[ad_rE false (w :: t)]? with
          | none => exact (decide_eq_false (fun z => hf (by have := (nI_eq (by simp at hi; omega) (by simpa using hi)).mp z; simp at this; omega))).symm
          | some d =>
            cases hd : wIs d 46 with
            | true => simp only [hd, cond_true]; exact (decide_eq_false (hm 0)).symm
            | false =>
              simp only [hd, cond_false]
              exact (decide_eq_false (fun z => hf (by have := (nI_eq (by simp at hi; omega) (by simpa using hi)).mp z; simp at this; omega))).symm
theorem z_isDomainBehind (hT : (gl_t G)[0]? = some (cI, .int)) {h : hp_T} {σ : rwT} (S : tS cI X h σ) (O : aO X h) {W g : Wds} (A : acW σ W g) {s n : Nat} {w : Int32 × Int32 × List Int32} (hs : s < n) (hn : n ≤ g.length) (qs : g[s]? = some w) : ct_E G m_Addresses_isDomainBehind [.ref (X + 18), .int (nI s), .int (nI n)] h (cv (.int (bI (wIs w 64 && ad_dom (ad_sl g (s + 1) n)))) h) := by
  have hgl := ac_le S A
  have hwf := ac_wf A qs
  have hlen : (ad_sl g (s + 1) n).length = n - (s + 1) := sl_len hn
  have hdom := dom_cls (ad_sl g (s + 1) n) (s + 1) (by omega)
  rw [show s + 1 + (ad_sl g (s + 1) n).length = n by omega] at hdom
  obtain ⟨⟨a, b, c, hA⟩, r, hW⟩ := id O
  refine ct_of (ws' := tb_all) rfl rfl (Nat.le_of_ble_eq_true rfl) ?_
  refine ev_iload_n d_Addresses_isDomainBehind_0 rfl rfl ?_
  refine ev_iconst (v := 1) d_Addresses_isDomainBehind_1 (by decide) ?_
  refine ev_iadd d_Addresses_isDomainBehind_2 ?_
  rw [nI_1]
  refine ev_istore_n d_Addresses_isDomainBehind_3 rfl (by decide) ?_
  refine ev_aload_n d_Addresses_isDomainBehind_4 rfl rfl ?_
  refine ev_iload_n d_Addresses_isDomainBehind_5 rfl rfl ?_
  refine ev_Vv (ci := 5) [.int (nI s)] [] ca_Addresses_isDomainBehind_100 d_Addresses_isDomainBehind_6 rfl (hA) rfl (Nat.le_of_ble_eq_true rfl) (z_kindAt hT S O A (nI s)) ?_
  rw [gk_at (by omega) qs]
  refine ev_bipush (v := 64) d_Addresses_isDomainBehind_9 (by decide) ?_
  have a34 : wIs w 64 = true → decide ((ad_sl g (s + 1) n).length = 1 ∧ ((ad_sl g (s + 1) n)[0]?).map (fun w => w.1) = some 2) = false → ev_E G m_Addresses_isDomainBehind 34 [(0, .ref (X + 18)), (1, .int (nI s)), (2, .int (nI n)), (3, .int (nI (s + 1)))] [] h (cv (.int (bI (wIs w 64 && ad_dom (ad_sl g (s + 1) n)))) h) := by
    intro h64 hno
    rw [hno, Bool.false_or] at hdom
    rw [h64, Bool.true_and, hdom]
    refine ev_aload_n d_Addresses_isDomainBehind_34 rfl rfl ?_
    refine ev_iload_n d_Addresses_isDomainBehind_35 rfl rfl ?_
    refine ev_iload_n d_Addresses_isDomainBehind_36 rfl rfl ?_
    refine ev_iconst (v := 0) d_Addresses_isDomainBehind_37 (by decide) ?_
    refine ev_Vv (ci := 5) [.int (nI (s + 1)), .int (nI n), .int (bI false)] [] ca_Addresses_isDomainBehind_107 d_Addresses_isDomainBehind_38 rfl (hA) rfl (Nat.le_of_ble_eq_true rfl) (z_dottedEnd hT S O A (by omega) hn false) ?_
    refine ev_iload_n d_Addresses_isDomainBehind_41 rfl rfl ?_
    by_cases hq : dEI false (s + 1) (ad_sl g (s + 1) n) = nI n
    · refine ev_icmp_ne (tgt := 49) d_Addresses_isDomainBehind_42 (by decide) (fun z => absurd hq z) (fun _ => ?_)
      rw [decide_eq_true hq]
      refine ev_iconst (v := 1) d_Addresses_isDomainBehind_45 (by decide) ?_
      refine ev_goto (tgt := 50) d_Addresses_isDomainBehind_46 (by decide) ?_
      refine ev_zret d_Addresses_isDomainBehind_50 rfl rfl ?_
      exact ⟨rfl, rfl⟩
    · refine ev_icmp_ne (tgt := 49) d_Addresses_isDomainBehind_42 (by decide) (fun _ => ?_) (fun z => absurd z hq)
      rw [decide_eq_false hq]
      refine ev_iconst (v := 0) d_Addresses_isDomainBehind_49 (by decide) ?_
      refine ev_zret d_Addresses_isDomainBehind_50 rfl rfl ?_
      exact ⟨rfl, rfl⟩
  cases h64 : wIs w 64 with
  | false =>
    refine ev_icmp_eq (tgt := 16) d_Addresses_isDomainBehind_11 (by decide) (fun z => absurd z (nK_s hwf (by decide) h64)) (fun _ => ?_)
    rw [Bool.false_and]
    refine ev_iconst (v := 0) d_Addresses_isDomainBehind_14 (by decide) ?_
    refine ev_zret d_Addresses_isDomainBehind_15 rfl rfl ?_
    exact ⟨rfl, rfl⟩
  | true =>
    rw [h64] at a34
    refine ev_icmp_eq (tgt := 16) d_Addresses_isDomainBehind_11 (by decide) (fun _ => ?_) (fun z => absurd ((cK_s hwf (by decide)).mpr h64) z)
    refine ev_iload_n d_Addresses_isDomainBehind_16 rfl rfl ?_
    refine ev_iload_n d_Addresses_isDomainBehind_17 rfl rfl ?_
    refine ev_isub d_Addresses_isDomainBehind_18 ?_
    rw [pk_sub (show s + 1 ≤ n by omega)]
    refine ev_iconst (v := 1) d_Addresses_isDomainBehind_19 (by decide) ?_
    by_cases h1 : n - (s + 1) = 1
    · refine ev_icmp_ne (tgt := 34) d_Addresses_isDomainBehind_20 (by decide) (fun z => absurd (by rw [h1]; rfl) z) (fun _ => ?_)
      have q1 : g[s + 1]? = some g[s + 1] := List.getElem?_eq_getElem (by omega)
      generalize g[s + 1] = w1 at q1
      have hsl : ad_sl g (s + 1) n = [w1] := by
        rw [sl_step (show s + 1 < n by omega) hn q1, sl_nil (show n ≤ s + 1 + 1 by omega)]
      refine ev_aload_n d_Addresses_isDomainBehind_23 rfl rfl ?_
      refine ev_iload_n d_Addresses_isDomainBehind_24 rfl rfl ?_
      refine ev_Vv (ci := 5) [.int (nI (s + 1))] [] ca_Addresses_isDomainBehind_100 d_Addresses_isDomainBehind_25 rfl (hA) rfl (Nat.le_of_ble_eq_true rfl) (z_kindAt hT S O A (nI (s + 1))) ?_
      rw [gk_at (by omega) q1]
      refine ev_iconst (v := 3) d_Addresses_isDomainBehind_28 (by decide) ?_
      by_cases h3 : w1.1 = 2
      · refine ev_icmp_ne (tgt := 34) d_Addresses_isDomainBehind_29 (by decide) (fun z => absurd ((cK_3 (ac_wf A q1)).mpr h3) z) (fun _ => ?_)
        rw [Bool.true_and, hsl, ad_dom, if_pos h3]
        refine ev_iconst (v := 1) d_Addresses_isDomainBehind_32 (by decide) ?_
        refine ev_zret d_Addresses_isDomainBehind_33 rfl rfl ?_
        exact ⟨rfl, rfl⟩
      · refine ev_icmp_ne (tgt := 34) d_Addresses_isDomainBehind_29 (by decide) (fun _ => ?_) (fun z => absurd ((cK_3 (ac_wf A q1)).mp z) h3)
        exact a34 rfl (decide_eq_false (fun z => h3 (by rw [hsl] at z; simpa using z.2)))
    · refine ev_icmp_ne (tgt := 34) d_Addresses_isDomainBehind_20 (by decide) (fun _ => ?_) (fun z => absurd ((nI_eq (a := n - (s + 1)) (b := 1) (by omega) (by decide)).mp z) h1)
      exact a34 rfl (decide_eq_false (fun z => h1 (by rw [← hlen]; exact z.1)))
end ACL
