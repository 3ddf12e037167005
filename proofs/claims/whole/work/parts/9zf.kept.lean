/-! what is kept of what was read last, behind identities and type -/
section KEPT
variable {σ σ' : rwT} {P : Pts} {Q Q' : List Prm}
theorem eS_ids {l : List (List Int32)} (he : eS σ P Q) (hf : ∀ τ, τ ∉ [35, 37] → (σ' τ).2.2 = (σ τ).2.2) (ht : txH σ' 34 l []) : eS σ' (va_up P 4 l) Q :=
  ⟨ctQ_same he.1 (fun τ hτ => hf τ (by revert τ; decide)), by rw [va_up_self]; exact ht, by rw [va_up_ne _ _ (by decide), va_up_ne _ _ (by decide)]; exact txH_same he.2.2 (hf 42 (by decide)) (hf 44 (by decide))⟩
theorem eS_typ {W : Wds} (he : eS σ P Q) (hf : ∀ τ, τ ∉ rC → (σ' τ).2.2 = (σ τ).2.2) (hq : ctQ σ' Q') (ht : txH σ' 41 (tyPs W) []) : eS σ' (tyPt P (tyA W)) Q' :=
  ⟨hq, by show txH σ' 34 (P 4) []; exact txH_same he.2.1 (hf 35 (by decide)) (hf 37 (by decide)), by rw [tyPs_P]; exact ht⟩
end KEPT
section PARM
variable {G : gl_G} {cI : ClassId} {X : Nat} {B T : List Int32} {F : Flds} {bd : Nat}
theorem y_parameter (hNm : gl_nm G) (hT : (gl_t G)[0]? = some (cI, .int)) {h : hp_T} {σ : rwT} (C : clS cI X h σ B T F bd) (O : obS X h) {Q : List Prm} (hsum : sumV Q ≤ 1600) (HQ : ctQ σ Q) : ct_E G m_Mail_parameter [.ref X] h (cr (fun y h' => y = .int (oL ((hdOf T Q).map (fun x => x.1))) ∧ clQ cI X h σ [2, 61, 63] B [] F bd h')) := by
  obtain ⟨S, H, C3, C4, -⟩ := id C
  have m2 : (2 : Nat) ∈ rws := by decide
  refine ct_of (ws' := tb_all) rfl rfl (Nat.le_of_ble_eq_true rfl) ?_
  refine ev_aload_n d_Mail_parameter_0 rfl rfl ?_
  refine ev_get (fa_Mail_60 rfl rfl) d_Mail_parameter_1 C4 rfl ?_
  refine ev_aload_n d_Mail_parameter_4 rfl rfl ?_
  refine ev_get (fa_Mail_16 rfl rfl) d_Mail_parameter_5 C4 rfl ?_
  refine ev_Vr (ci := 8) [.ref (X + 2)] [] ca_Mail_parameter_161 d_Mail_parameter_8 rfl (O.2.2.2.2) rfl (Nat.le_of_ble_eq_true rfl) (y_takeInHand hNm hT hsum C.2.2.2.2.2.2.2 S (obS_cO O) HQ C.2.2.2.2.2.2.1) (fun v h1 z => ?_)
  obtain ⟨rfl, σ1, S1, r1, p1, -⟩ := z
  have k1 : kR [] X h σ h1 σ1 := kR_of r1
  have C1 := clS_go C S1 k1 (by simp) (by simp) (by simp) (fun τ hτ => p1 τ (by revert τ; decide))
  have Ob1 := obS_go S k1 O (by simp) (by simp) (Or.inl (by simp)) (Or.inl (by simp)) (Or.inl (by simp))
  refine ev_istore_n d_Mail_parameter_11 rfl (by decide) ?_
  refine ev_aload_n d_Mail_parameter_12 rfl rfl ?_
  refine ev_get (fa_Mail_16 rfl rfl) d_Mail_parameter_13 C1.2.2.2.1 rfl ?_
  refine ev_iconst (v := 0) d_Mail_parameter_16 (by decide) ?_
  refine ev_Vn (ci := 1) [.int 0] [] ca_Mail_parameter_89 d_Mail_parameter_17 rfl ((S1.1.1 _ m2).1.1) rfl (Nat.le_of_ble_eq_true rfl) (w_rcut S1 m2 0) (fun h1 z => ?_)
  obtain ⟨σ2, S2, r2, p2, p3⟩ := z
  have k2 := kR_of (O := []) r2
  have Ob2 := obS_go S1 k2 Ob1 (by simp) (by simp) (Or.inl (by simp)) (Or.inl (by simp)) (Or.inl (by simp))
  obtain ⟨-, H1, D3, D4, ⟨f5, D5, D6⟩, D7, D8, D9⟩ := C1
  have hX1 := S1.1.2.2
  obtain ⟨K5, K7⟩ := kR_arr k2 D7 (by simp) hX1
  refine ev_iload_n d_Mail_parameter_20 rfl rfl ?_
  refine ev_iret d_Mail_parameter_21 rfl ?_
  refine ⟨_, rfl, rfl, σ2, ⟨⟨S2, ⟨rwR_obj S1.1 r2 H1.1 (by omega) (nrow (by decide)), by rw [p2 6 (by decide)]; exact H1.2.1, by rw [p2 8 (by decide)]; exact H1.2.2.1, H1.2.2.2⟩, D3, rwR_obj S1.1 r2 D4 (by omega) (nrow (q := 0) (by decide)), ⟨f5, by rw [K5]; exact D5, D6⟩, K7, by rw [p3]; rfl, by decide⟩, Ob2⟩, kR_tr (kR_sub k1 (by simp)) (kR_sub k2 (by simp)), fun τ hτ => (p2 τ (fun z => hτ (by simp at z; simp [z]))).trans (p1 τ (fun z => hτ (List.mem_cons_of_mem _ z)))⟩
end PARM
