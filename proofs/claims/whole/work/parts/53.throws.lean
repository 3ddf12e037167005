section THROWERS
variable {G : gl_G} {cI : ClassId} {s170 : Nat} {h : hp_T}
theorem c_Head_texts {a t : Nat} {v1 v2 : Value} (hA : h.2.2 a = some (.inr (2, [.ref t, v1, v2]))) : ct_E G m_Head_texts [.ref a] h (cv (.ref t) h) := by
  refine ct_of (ws' := tb_all) rfl rfl (Nat.le_of_ble_eq_true rfl) ?_
  refine ev_aload_n d_Head_texts_0 rfl rfl ?_
  refine ev_get (fa_Head_12 rfl rfl) d_Head_texts_1 hA rfl ?_
  refine ev_aret d_Head_texts_4 rfl (Or.inl ⟨_, rfl⟩) ?_
  exact ⟨rfl, rfl⟩
theorem x_addresses (hE : gl_ex G s170) {X a t w x rb cb kb rx cx kx : Nat} {bs bd : List Int32} {v0 v1 v2 v3 v4 : Value} {vs : List Value} (hX : h.2.2 X = some (.inr (0, v0 :: v3 :: .ref a :: .ref w :: v4 :: .ref x :: vs))) (hA : h.2.2 a = some (.inr (2, [.ref t, v1, v2]))) (hr : tx_at cI h t rb cb kb bs rx cx kx bd) (f : Int32) (hf : hdT ((nI bd.length - 1) / 2) f 1 = -1) : tx_D G m_Mail_addresses [.ref X, .int f] h := by
  refine tx_of (ws' := tb_all) rfl rfl (Nat.le_of_ble_eq_true rfl) ?_
  refine et_aload_n d_Mail_addresses_0 rfl rfl ?_
  refine et_get (fa_Mail_30 rfl rfl) d_Mail_addresses_1 hX rfl ?_
  refine et_aload_n d_Mail_addresses_4 rfl rfl ?_
  refine et_get (fa_Mail_23 rfl rfl) d_Mail_addresses_5 hX rfl ?_
  refine et_Vv (ci := 2) [] [.ref w] ca_Mail_addresses_102 d_Mail_addresses_8 rfl hA rfl (Nat.le_of_ble_eq_true rfl) (c_Head_texts hA) ?_
  refine et_aload_n d_Mail_addresses_11 rfl rfl ?_
  refine et_iload_n (x := f) d_Mail_addresses_12 rfl rfl ?_
  exact et_Vt (ci := 0) [.int f] [.ref t, .ref w] ca_Mail_addresses_117 d_Mail_addresses_13 rfl hX rfl (Nat.le_of_ble_eq_true rfl) (x_valueOf hE hX hA hr f hf)
theorem x_identities (hE : gl_ex G s170) {X a t w x rb cb kb rx cx kx : Nat} {bs bd : List Int32} {v0 v1 v2 v3 v4 : Value} {vs : List Value} (hX : h.2.2 X = some (.inr (0, v0 :: v3 :: .ref a :: .ref w :: v4 :: .ref x :: vs))) (hA : h.2.2 a = some (.inr (2, [.ref t, v1, v2]))) (hr : tx_at cI h t rb cb kb bs rx cx kx bd) (f : Int32) (hf : hdT ((nI bd.length - 1) / 2) f 1 = -1) : tx_D G m_Mail_identities [.ref X, .int f] h := by
  refine tx_of (ws' := tb_all) rfl rfl (Nat.le_of_ble_eq_true rfl) ?_
  refine et_aload_n d_Mail_identities_0 rfl rfl ?_
  refine et_get (fa_Mail_46 rfl rfl) d_Mail_identities_1 hX rfl ?_
  refine et_aload_n d_Mail_identities_4 rfl rfl ?_
  refine et_get (fa_Mail_23 rfl rfl) d_Mail_identities_5 hX rfl ?_
  refine et_Vv (ci := 2) [] [.ref x] ca_Mail_identities_102 d_Mail_identities_8 rfl hA rfl (Nat.le_of_ble_eq_true rfl) (c_Head_texts hA) ?_
  refine et_aload_n d_Mail_identities_11 rfl rfl ?_
  refine et_iload_n (x := f) d_Mail_identities_12 rfl rfl ?_
  exact et_Vt (ci := 0) [.int f] [.ref t, .ref x] ca_Mail_identities_117 d_Mail_identities_13 rfl hX rfl (Nat.le_of_ble_eq_true rfl) (x_valueOf hE hX hA hr f hf)
theorem x_date (hE : gl_ex G s170) {X a t w x rb cb kb rx cx kx : Nat} {bs bd : List Int32} {v0 v1 v2 v3 v4 : Value} {vs : List Value} (hX : h.2.2 X = some (.inr (0, v0 :: v3 :: .ref a :: .ref w :: v4 :: .ref x :: vs))) (hA : h.2.2 a = some (.inr (2, [.ref t, v1, v2]))) (hr : tx_at cI h t rb cb kb bs rx cx kx bd) (f : Int32) (hf : hdT ((nI bd.length - 1) / 2) f 1 = -1) : tx_D G m_Mail_date [.ref X, .int f] h := by
  refine tx_of (ws' := tb_all) rfl rfl (Nat.le_of_ble_eq_true rfl) ?_
  refine et_aload_n d_Mail_date_0 rfl rfl ?_
  refine et_get (fa_Mail_30 rfl rfl) d_Mail_date_1 hX rfl ?_
  refine et_aload_n d_Mail_date_4 rfl rfl ?_
  refine et_get (fa_Mail_23 rfl rfl) d_Mail_date_5 hX rfl ?_
  refine et_Vv (ci := 2) [] [.ref w] ca_Mail_date_102 d_Mail_date_8 rfl hA rfl (Nat.le_of_ble_eq_true rfl) (c_Head_texts hA) ?_
  refine et_aload_n d_Mail_date_11 rfl rfl ?_
  refine et_iload_n (x := f) d_Mail_date_12 rfl rfl ?_
  exact et_Vt (ci := 0) [.int f] [.ref t, .ref w] ca_Mail_date_117 d_Mail_date_13 rfl hX rfl (Nat.le_of_ble_eq_true rfl) (x_valueOf hE hX hA hr f hf)
theorem x_type (hE : gl_ex G s170) {X a t w x rb cb kb rx cx kx : Nat} {bs bd : List Int32} {v0 v1 v2 v3 v4 : Value} {vs : List Value} (hX : h.2.2 X = some (.inr (0, v0 :: v3 :: .ref a :: .ref w :: v4 :: .ref x :: vs))) (hA : h.2.2 a = some (.inr (2, [.ref t, v1, v2]))) (hr : tx_at cI h t rb cb kb bs rx cx kx bd) (f : Int32) (hf : hdT ((nI bd.length - 1) / 2) f 1 = -1) : tx_D G m_Mail_type [.ref X, .int f] h := by
  refine tx_of (ws' := tb_all) rfl rfl (Nat.le_of_ble_eq_true rfl) ?_
  refine et_aload_n d_Mail_type_0 rfl rfl ?_
  refine et_get (fa_Mail_30 rfl rfl) d_Mail_type_1 hX rfl ?_
  refine et_aload_n d_Mail_type_4 rfl rfl ?_
  refine et_get (fa_Mail_23 rfl rfl) d_Mail_type_5 hX rfl ?_
  refine et_Vv (ci := 2) [] [.ref w] ca_Mail_type_102 d_Mail_type_8 rfl hA rfl (Nat.le_of_ble_eq_true rfl) (c_Head_texts hA) ?_
  refine et_aload_n d_Mail_type_11 rfl rfl ?_
  refine et_iload_n (x := f) d_Mail_type_12 rfl rfl ?_
  exact et_Vt (ci := 0) [.int f] [.ref t, .ref w] ca_Mail_type_117 d_Mail_type_13 rfl hX rfl (Nat.le_of_ble_eq_true rfl) (x_valueOf hE hX hA hr f hf)
end THROWERS
section HELPERS
/-- a method with handlers: its contract out of its walk -/
theorem ct_ofH {G : gl_G} {μ : mt_M} {av : List Value} {h : hp_T} {Z : Option Value → hp_T → Prop} {hs : List (Nat × Nat × Nat × Nat)} {ws' : List Cond} (hy : plainName (mt_y μ).cls = true) (hw : mt_w μ = Cond.codeWith (mt_y μ) (mt_b μ) (mt_n μ) (mt_r μ) hs :: ws') (hn : (lg_sl av).length ≤ mt_n μ) (k : ev_E G μ 0 (lv_args 0 av) [] h Z) : ct_E G μ av h Z := by
  obtain ⟨o, h', hz, h1, h2, k⟩ := k
  refine ⟨o, h', hz, h1, h2, fun hG => ?_⟩
  refine MetFree.of_bodyS (code := mt_b μ) (maxLocals := mt_n μ) (ret := mt_r μ) hy ?_ ?_
  · intro args s m h0 hnm
    obtain ⟨m', meth, c, q1, q2, q3, q4, q5, -, q6, q7, -⟩ := Cond.codeWith_spec (atoms_spec (ws := mt_w μ) h0 _ (by rw [hw]; exact List.mem_cons_self))
    cases hnm.symm.trans q1
    exact ⟨meth, c, q2, q3, q4, q5, q6, q7⟩
  · intro p e s m args below meth c s₁ B hml hP _
    obtain ⟨rfl, hO, hbs, hK, hL⟩ := hP
    have hts := atoms_spec (ws := mt_w μ) B.pre
    have hown : s.vm.findClass (mt_y μ).cls = some m.cls := findClass_of_methodNamed B.named
    have hl := lv_entry av (n := mt_n μ) hn
    have hh0 : s₁.heap = s.heap := by rw [B.state]; rfl
    rw [lg_entry_eq]
    obtain ⟨t, a1, o, b1, b2, b3⟩ := k p e (ct_R μ (h'.1 - h.1) (h'.2.1 - h.2.1)) s m _ below meth c ⟨B.exec, B.bytes, hml, B.returns, hown, hts, B.notSynchronized, (name_of_methodNamed B.named B.method).1, hK, hL, hbs, rfl, rfl, hG, B.named, hO.1.2⟩ s.heap [] 0 0 _ hO va_S.rf hl (Nat.le_of_eq (Nat.zero_add _)) (Nat.le_of_eq (Nat.zero_add _)) s₁ hh0 (Stand.of_body B)
    exact ⟨t, o, a1, b1, b2, ⟨b3.1, b3.2⟩⟩
variable {G : gl_G} {μ ν : mt_M} {pc : Nat} {lv : List (Nat × Value)} {h : hp_T} {Z Z1 : Option Value → hp_T → Prop} {index n : Nat}
/-- a call of a static method with handlers -/
theorem ev_callSH {hs : List (Nat × Nat × Nat × Nat)} (As rest : List Value) (hlink : Cond.methodLink (mt_y μ).cls index (mt_y ν) ∈ mt_w μ) (hstat : Cond.static (mt_y ν) ∈ mt_w μ) (hini : Cond.initialized (mt_y ν).cls ∈ mt_w μ) (hcode : Cond.codeWith (mt_y ν) (mt_b ν) (mt_n ν) (mt_r ν) hs ∈ mt_w μ) (hgood : GoodIn (mt_w μ) (mt_w ν)) (hdd : (mt_y ν).cls ≠ "java/lang/invoke/MethodHandle" ∧ (mt_y ν).cls ≠ "java/lang/invoke/VarHandle" ∧ (parseMethodDescriptor (mt_y ν).desc).map (fun d => d.parameters.length) = some n) (hR : mt_f ν + 1 ≤ mt_f μ ∧ 8 + (mt_n ν + 11) + mt_l ν ≤ mt_l μ)
    (hd : decode (mt_b μ) pc = .ok (.invokestatic index, 3)) (hn : As.length = n) (hroom : (rest.map fun v => v.category).sum ≤ 8) (hM : ct_E G ν As h Z1) (kk : ∀ o h1, Z1 o h1 → ev_E G μ (pc + 3) lv (o.toList ++ rest) h1 Z) : ev_E G μ pc lv (As.reverse ++ rest) h Z := by
  obtain ⟨o1, h1, z1, le1, le2, M⟩ := hM
  refine ev_step (h2 := h1) le1 le2 (fun p e R s m args below meth c X H locs cells slots Q ls hO hS hl hc1 hs1 k => ?_) (kk o1 h1 z1)
  have X' := X
  obtain ⟨hx, hb, hml, hr, hown, hts, hlocks, hname, hK, hL, hbs, hRf, hRl, hG, hnmd, hns⟩ := X
  rw [← hRf, ← hRl] at hR
  intro U hU XU
  obtain ⟨mk, methM, cM, hnamed, hmethM, hcM, hbM, hlM, -, -, hlocksM, hsigM⟩ := Cond.codeWith_spec (hts _ hcode)
  have hstatic : methM.isStatic = true := Cond.static_spec hnamed hmethM (hts _ hstat)
  obtain ⟨kP, hkP, -⟩ := className_of_methodNamed hnamed
  have hinitP : kP.init = .initialized := Cond.initialized_spec (findClass_of_methodNamed hnamed) hkP (hts _ hini)
  have hlen : As.length = methM.sig.parameters.length := by
    have h3 := hdd.2.2
    rw [hsigM] at h3
    exact hn.trans (Option.some.inj h3).symm
  obtain ⟨vm₁, X₁, hstep₁⟩ := XU.invokestatic hx hown (hts _ hlink) hnamed hmethM hstatic hkP hinitP ⟨hdd.1, hdd.2.1⟩ (g := F0 m pc ls (As.reverse ++ rest)) rfl (argsL := As) (rest := rest) hlen rfl (by rw [hb]; exact hd)
  have hwarm := X₁.warmed
  obtain ⟨o, t, hsteps, hend, ⟨rfl, hOt, hz, hk⟩, L, ⟨-, hW2, hsame⟩, hLA⟩ := tc_into X₁ (M hG) (g := F0 m pc ls rest) rfl (by rw [hml]; exact hl.1) (by rw [hb]; exact hd) (mk := mk) (a := As.toArray) (X₁.named hnamed) (methY := methM) (cY := cM) (by rw [hwarm.alike.method?]; exact hmethM) hcM
    (word_at hwarm (Or.inl (by first | rfl | simp [Cond.onTables, Cond.keeps, Cond.steady])) (hts _ hini)) hR.1 (by
      have h8 : 2 * (F0 m pc ls rest).monitorRoom + (rest.map fun v => v.category).sum ≤ 8 := lv_room hroom
      have hlo' : 8 + (mt_n ν + 11) + mt_l ν ≤ R.locals := hR.2
      rw [hlM]
      show 2 * (F0 m pc ls rest).monitorRoom + (rest.map fun v => v.category).sum + (mt_n ν + 11) + mt_l ν ≤ R.locals
      omega) hc1 hs1 (atoms_intro fun w hw => word_at hwarm (hgood w hw).2 (hts _ (hgood w hw).1)) (ct_blind hG _ _ _ _ _ _ (ct_here X' hO hS As (U.setVm vm₁) hU hwarm))
  obtain ⟨U', XU', hWU, hsU, ht⟩ := X₁.outOf (g := F0 m pc ls rest) rfl (by rw [hb]; exact hd) hend hW2 hsame
  have hhp : t.heap = U'.heap := by rw [ht]; rfl
  have hst : ((U.setVm vm₁).calling (F0 m pc ls rest) mk As.toArray).heap = H := hU
  rw [hst] at hz hk
  obtain ⟨t2, a1, b1⟩ := k U'.heap (locs ++ L) ls (by rw [← hhp]; exact hOt) ⟨Nat.le_trans hS.1 (by rw [← hhp]; exact hz), fun q h1 h2 => by rw [← hhp, hk q (Nat.lt_of_lt_of_le h1 hS.1) h2]; exact hS.2.1 q h1 h2, fun q hq => by
    rcases List.mem_append.mp hq with z | z
    · exact hS.2.2 q z
    · exact hLA q z⟩ hl U' rfl XU'
  refine ⟨t2, hstep₁ _ fun acts => ?_, b1⟩
  rw [doInvoke_state]
  refine hsteps.trans ?_
  rw [ht]
  exact a1
end HELPERS
