/-! one script at which class and reference answer otherwise: the parameter in hand behind a later type -/
section LAW6A
def LX (cI cZ cJ : ClassId) (X : Nat) (h : hp_T) (σ : rwT) (B T : List Int32) (F : Flds) (Q : List Prm) (hd : Option (List Int32)) (hc : Option (List Int32 × List Int32)) : Prop := ∃ (bd : Nat) (P : Pts) (gs : List Int32) (ch : Option (List Int32)) (I : Nat → Int32) (R : Nat → Nat → Int32), (clS cI X h σ B T F bd ∧ obS X h) ∧ oC cJ X h ∧ mI B T F bd P gs Q hd ch I R ∧ mo_ov cI cZ h (X + 70) I R = h ∧ byS B T F ∧ eS σ P Q ∧ hdH σ hc
variable {G : gl_G} {cI cZ cJ : ClassId} {X b L i s170 sa sb : Nat} {xs : Nat → Int32} {h : hp_T} {σ : rwT} {Z : Option Value → hp_T → Prop} {B T : List Int32} {F : Flds} {Q : List Prm} {hd : Option (List Int32)} {hc : Option (List Int32 × List Int32)}
theorem hdH_same {σ' : rwT} {oo : Option (List Int32 × List Int32)} (H : hdH σ oo) (h1 : (σ' 61).2.2 = (σ 61).2.2) (h3 : (σ' 63).2.2 = (σ 63).2.2) : hdH σ' oo := by
  cases oo with
  | none => exact txH_same (t := 60) H h1 h3
  | some x => exact txH_same (t := 60) H h1 h3
theorem LX_sum (L0 : LX cI cZ cJ X h σ B T F Q hd hc) : sumC σ rws ≤ 106496 := by
  obtain ⟨bd, P, gs, ch, I, R, C, o, H, e, hy, he, -⟩ := L0
  exact LI_sum (cI := cI) (cZ := cZ) (cJ := cJ) (X := X) (h := h) ⟨B, T, F, bd, P, gs, Q, hd, ch, I, R, C, o, H, e, hy, he⟩
theorem ref_LX {bd : Nat} {P : Pts} {gs : List Int32} {ch : Option (List Int32)} {h' : hp_T} (C : clS cI X h σ B T F bd) (O : obS X h) (o : oC cJ X h) (hy : byS B T F) (he : eS σ P Q) (hh : hdH σ hc) (H : mH cI cZ h (X + 70) (mI B T F bd P gs Q hd ch) h') : LX cI cZ cJ X h' σ B T F Q hd hc ∧ h'.1 = h.1 ∧ h'.2.1 = h.2.1 := by
  obtain ⟨I', R', rfl, H⟩ := H
  have hX := C.1.1.2.2
  have hq : ∀ q, (q ≤ X + 69 ∨ X + 99 ≤ q) → q < h.1 → (mo_ov cI cZ h (X + 70) I' R').2.2 q = h.2.2 q := fun q q1 _ => ov_ne (by omega)
  obtain ⟨f, hf⟩ := o
  exact ⟨⟨bd, P, gs, ch, I', R', ⟨clS_eq C (Nat.le_refl _) hq, obS_eq O hX hq⟩, ⟨f, by rw [ov_ne (by omega)]; exact hf⟩, H, ov_ov, hy, he, hh⟩, rfl, rfl⟩
theorem z_byteInHand (hT : (gl_t G)[0]? = some (cI, .int)) (S : tS cI X h σ) (O : obS X h) (hh : hdH σ hc) (t : Bool) (k : Int32) : ct_E G m_ContentType_byteInHand [.ref (X + 40), .int (bI t), .int k] h (cv (.int (oB (hc.map (fun x => bif t then x.2 else x.1)) k)) h) := by
  have m : (60 : Nat) ∈ txs := by decide
  have key : btO (σ (60 + 1)).2.2 (σ (60 + 3)).2.2 (bif t then 0 else 1) k = oB (hc.map (fun x => bif t then x.2 else x.1)) k := by
    obtain ⟨Ls, H, e⟩ : ∃ Ls : List (List Int32), txH σ 60 Ls [] ∧ txG Ls (bif t then 0 else 1) = hc.map (fun x => bif t then x.2 else x.1) := by
      cases hc with
      | none => exact ⟨[], hh, by cases t <;> first | rfl | simp [txG]⟩
      | some x => exact ⟨[x.2, x.1], hh, by cases t <;> first | rfl | simp [txG]⟩
    have hl := txH_le S m H
    rw [H.1, H.2, txG_bt (by omega) (by omega), e]
  refine ct_of (ws' := tb_all) rfl rfl (Nat.le_of_ble_eq_true rfl) ?_
  refine ev_aload_n d_ContentType_byteInHand_0 rfl rfl ?_
  refine ev_get (fa_ContentType_38 rfl rfl) d_ContentType_byteInHand_1 O.2.2.2.2 rfl ?_
  refine ev_iload_n d_ContentType_byteInHand_4 rfl rfl ?_
  cases t with
  | false =>
    refine ev_if_eq (tgt := 12) d_ContentType_byteInHand_5 (by decide) (fun _ => ?_) (fun z => absurd rfl z)
    refine ev_iconst (v := 1) d_ContentType_byteInHand_12 (by decide) ?_
    refine ev_iload_n d_ContentType_byteInHand_13 rfl rfl ?_
    refine ev_Vv (ci := 3) [.int 1, .int k] [] ca_ContentType_byteInHand_82 d_ContentType_byteInHand_14 rfl ((S.2 60 m)) rfl (Nat.le_of_ble_eq_true rfl) (w_byteOf hT S m 1 k) ?_
    rw [show btO (σ (60 + 1)).2.2 (σ (60 + 3)).2.2 1 k = _ from key]
    refine ev_iret d_ContentType_byteInHand_17 rfl ?_
    exact ⟨rfl, rfl⟩
  | true =>
    refine ev_if_eq (tgt := 12) d_ContentType_byteInHand_5 (by decide) (fun z => absurd z (by decide)) (fun _ => ?_)
    refine ev_iconst (v := 0) d_ContentType_byteInHand_8 (by decide) ?_
    refine ev_goto (tgt := 13) d_ContentType_byteInHand_9 (by decide) ?_
    refine ev_iload_n d_ContentType_byteInHand_13 rfl rfl ?_
    refine ev_Vv (ci := 3) [.int 0, .int k] [] ca_ContentType_byteInHand_82 d_ContentType_byteInHand_14 rfl ((S.2 60 m)) rfl (Nat.le_of_ble_eq_true rfl) (w_byteOf hT S m 0 k) ?_
    rw [show btO (σ (60 + 1)).2.2 (σ (60 + 3)).2.2 0 k = _ from key]
    refine ev_iret d_ContentType_byteInHand_17 rfl ?_
    exact ⟨rfl, rfl⟩
theorem z_parameterByte (hT : (gl_t G)[0]? = some (cI, .int)) (S : tS cI X h σ) (O : obS X h) (hX : h.2.2 X = some (ml_o X)) (hh : hdH σ hc) (t : Bool) (k : Int32) : ct_E G m_Mail_parameterByte [.ref X, .int (bI t), .int k] h (cv (.int (oB (hc.map (fun x => bif t then x.2 else x.1)) k)) h) := by
  refine ct_of (ws' := tb_all) rfl rfl (Nat.le_of_ble_eq_true rfl) ?_
  refine ev_aload_n d_Mail_parameterByte_0 rfl rfl ?_
  refine ev_get (fa_Mail_60 rfl rfl) d_Mail_parameterByte_1 hX rfl ?_
  refine ev_iload_n d_Mail_parameterByte_4 rfl rfl ?_
  refine ev_iload_n d_Mail_parameterByte_5 rfl rfl ?_
  refine ev_Vv (ci := 8) [.int (bI t), .int k] [] ca_Mail_parameterByte_164 d_Mail_parameterByte_6 rfl (O.2.2.2.2) rfl (Nat.le_of_ble_eq_true rfl) (z_byteInHand hT S O hh t k) ?_
  refine ev_iret d_Mail_parameterByte_9 rfl ?_
  exact ⟨rfl, rfl⟩
theorem z_parameter (hNm : gl_nm G) (hT : (gl_t G)[0]? = some (cI, .int)) {bd : Nat} (C : clS cI X h σ B T F bd) (O : obS X h) (hsum : sumV Q ≤ 1600) (HQ : ctQ σ Q) : ct_E G m_Mail_parameter [.ref X] h (cr (fun y h' => y = .int (oL ((hdOf T Q).map (fun x => x.1))) ∧ ∃ σ', (clS cI X h' σ' B [] F bd ∧ obS X h') ∧ kR (mQ X) X h σ h' σ' ∧ (∀ τ, τ ∉ [2, 61, 63] → (σ' τ).2.2 = (σ τ).2.2) ∧ hdH σ' (hdOf T Q))) := by
  obtain ⟨S, H, C3, C4, -⟩ := id C
  have m2 : (2 : Nat) ∈ rws := by decide
  refine ct_of (ws' := tb_all) rfl rfl (Nat.le_of_ble_eq_true rfl) ?_
  refine ev_aload_n d_Mail_parameter_0 rfl rfl ?_
  refine ev_get (fa_Mail_60 rfl rfl) d_Mail_parameter_1 C4 rfl ?_
  refine ev_aload_n d_Mail_parameter_4 rfl rfl ?_
  refine ev_get (fa_Mail_16 rfl rfl) d_Mail_parameter_5 C4 rfl ?_
  refine ev_Vr (ci := 8) [.ref (X + 2)] [] ca_Mail_parameter_161 d_Mail_parameter_8 rfl (O.2.2.2.2) rfl (Nat.le_of_ble_eq_true rfl) (y_takeInHand hNm hT hsum C.2.2.2.2.2.2.2 S (obS_cO O) HQ C.2.2.2.2.2.2.1) (fun v h1 z => ?_)
  obtain ⟨rfl, σ1, S1, r1, p1, hh1⟩ := z
  have k1 : kR [] X h σ h1 σ1 := kR_of r1
  have C1 := clS_go C S1 k1 (by simp) (by simp) (by simp) (fun τ hτ => p1 τ (by revert τ; decide))
  have Ob1 := obS_go S k1 O (by simp) (by simp) (Or.inl (by simp)) (Or.inl (by simp)) (Or.inl (by simp))
  refine ev_istore_n d_Mail_parameter_11 rfl (by decide) ?_
  refine ev_aload_n d_Mail_parameter_12 rfl rfl ?_
  refine ev_get (fa_Mail_16 rfl rfl) d_Mail_parameter_13 C1.2.2.2.1 rfl ?_
  refine ev_iconst (v := 0) d_Mail_parameter_16 (by decide) ?_
  refine ev_Vn (ci := 1) [.int 0] [] ca_Mail_parameter_89 d_Mail_parameter_17 rfl ((S1.1.1 _ m2).1.1) rfl (Nat.le_of_ble_eq_true rfl) (w_rcut S1 m2 0) (fun h1 z => ?_)
  obtain ⟨σ2, S2, r2, p2, p3⟩ := z
  have k2 := kR_of (O := []) r2
  have Ob2 := obS_go S1 k2 Ob1 (by simp) (by simp) (Or.inl (by simp)) (Or.inl (by simp)) (Or.inl (by simp))
  obtain ⟨-, H1, D3, D4, ⟨f5, D5, D6⟩, D7, D8, D9⟩ := C1
  have hX1 := S1.1.2.2
  obtain ⟨K5, K7⟩ := kR_arr k2 D7 (by simp) hX1
  refine ev_iload_n d_Mail_parameter_20 rfl rfl ?_
  refine ev_iret d_Mail_parameter_21 rfl ?_
  refine ⟨_, rfl, rfl, σ2, ⟨⟨S2, ⟨rwR_obj S1.1 r2 H1.1 (by omega) (nrow (by decide)), by rw [p2 6 (by decide)]; exact H1.2.1, by rw [p2 8 (by decide)]; exact H1.2.2.1, H1.2.2.2⟩, D3, rwR_obj S1.1 r2 D4 (by omega) (nrow (q := 0) (by decide)), ⟨f5, by rw [K5]; exact D5, D6⟩, K7, by rw [p3]; rfl, by decide⟩, Ob2⟩, kR_tr (kR_sub k1 (by simp)) (kR_sub k2 (by simp)), fun τ hτ => (p2 τ (fun z => hτ (by simp at z; simp [z]))).trans (p1 τ (fun z => hτ (List.mem_cons_of_mem _ z))), hdH_same hh1 (p2 61 (by decide)) (p2 63 (by decide))⟩
end LAW6A
section LAW6
variable {G : gl_G} {cI cZ cJ : ClassId} {X b L i s170 sa sb : Nat} {xs : Nat → Int32} {h : hp_T} {σ : rwT} {Z : Option Value → hp_T → Prop} {B T : List Int32} {F : Flds} {Q : List Prm} {hd : Option (List Int32)} {hc : Option (List Int32 × List Int32)}
abbrev lvQ (b X i : Nat) : List (Nat × Value) := [(0, .ref b), (1, .ref X), (2, .ref (X + 70)), (3, .ref (X + 98)), (4, .int (nI i))]
theorem at_ov {μ : mt_M} {av : List Value} {M : Nat} {I : Nat → Int32} {R : Nat → Nat → Int32} {Z1 : Option Value → hp_T → Prop} (e : mo_ov cI cZ h M I R = h) (k : ct_E G μ av (mo_ov cI cZ h M I R) Z1) : ct_E G μ av h Z1 := e ▸ k
/-- feed -/
theorem x_0 (hNm : gl_nm G) (hT : (gl_t G)[0]? = some (cI, .int)) (hZ : (gl_t G)[1]? = some (cZ, .boolean)) (hJ : (gl_t G)[2]? = some (cJ, .long)) (hE : gl_ex G s170) (hG : gSg G sa sb) (hS2 : gS2 G sa sb) (hSc : gl_sc G b L xs) (hI : ∀ k : Nat, k < 6 → vp_in (nI i + nI k) L) (L0 : LX cI cZ cJ X h σ B T F Q hd hc)  (kk : ∀ (h' : hp_T) (σ' : rwT), LX cI cZ cJ X h' σ' (fedL (xs (nI i + nI 1).toNatClampNeg) (xs (nI i + nI 2).toNatClampNeg) (xs (nI i + nI 3).toNatClampNeg) (xs (nI i + nI 4).toNatClampNeg) (xs (nI i + nI 5).toNatClampNeg)) T F Q hd hc → bR h σ h' σ' → ev_E G m_Law_law 760 (lvQ b X i) [] h' Z) : ev_E G m_Law_law 120 (lvQ b X i) [] h Z := by
  obtain ⟨bd, P, gs, ch, I, R, ⟨C, O⟩, o, H, e, hy, he, hh⟩ := L0
  refine ev_aload_n d_Law_law_120 rfl rfl ?_
  refine ev_aload_n d_Law_law_121 rfl rfl ?_
  refine ev_iload d_Law_law_122 rfl ?_
  refine ev_iconst (v := 1) d_Law_law_124 (by decide) ?_
  refine ev_iadd d_Law_law_125 ?_
  refine ev_sld hSc (hI 1 (by decide)) d_Law_law_126 ?_
  refine ev_aload_n d_Law_law_127 rfl rfl ?_
  refine ev_iload d_Law_law_128 rfl ?_
  refine ev_iconst (v := 2) d_Law_law_130 (by decide) ?_
  refine ev_iadd d_Law_law_131 ?_
  refine ev_sld hSc (hI 2 (by decide)) d_Law_law_132 ?_
  refine ev_aload_n d_Law_law_133 rfl rfl ?_
  refine ev_iload d_Law_law_134 rfl ?_
  refine ev_iconst (v := 3) d_Law_law_136 (by decide) ?_
  refine ev_iadd d_Law_law_137 ?_
  refine ev_sld hSc (hI 3 (by decide)) d_Law_law_138 ?_
  refine ev_aload_n d_Law_law_139 rfl rfl ?_
  refine ev_iload d_Law_law_140 rfl ?_
  refine ev_iconst (v := 4) d_Law_law_142 (by decide) ?_
  refine ev_iadd d_Law_law_143 ?_
  refine ev_sld hSc (hI 4 (by decide)) d_Law_law_144 ?_
  refine ev_aload_n d_Law_law_145 rfl rfl ?_
  refine ev_iload d_Law_law_146 rfl ?_
  refine ev_iconst (v := 5) d_Law_law_148 (by decide) ?_
  refine ev_iadd d_Law_law_149 ?_
  refine ev_sld hSc (hI 5 (by decide)) d_Law_law_150 ?_
  refine ev_Vn (ci := 0) [.int _, .int _, .int _, .int _, .int _] [] ca_Law_law_30 d_Law_law_151 rfl (C.2.2.2.1) rfl (Nat.le_of_ble_eq_true rfl) (w_feed hT C _ _ _ _ _) (fun h1 z => ?_)
  obtain ⟨σ1, ⟨C1, O1⟩, k1, f1⟩ := clP_Q C O z
  have hm : ∀ q, X + 70 ≤ q → q ≤ X + 98 → h1.2.2 q = h.2.2 q := fun q q1 q2 => kR_mid C.1 k1 mQ_mid q1 q2
  have o1 := mid_oC o hm
  have e1 := mid_ov e hm
  refine ev_aload_n d_Law_law_154 rfl rfl ?_
  refine ev_aload_n d_Law_law_155 rfl rfl ?_
  refine ev_iload d_Law_law_156 rfl ?_
  refine ev_iconst (v := 1) d_Law_law_158 (by decide) ?_
  refine ev_iadd d_Law_law_159 ?_
  refine ev_sld hSc (hI 1 (by decide)) d_Law_law_160 ?_
  refine ev_aload_n d_Law_law_161 rfl rfl ?_
  refine ev_iload d_Law_law_162 rfl ?_
  refine ev_iconst (v := 2) d_Law_law_164 (by decide) ?_
  refine ev_iadd d_Law_law_165 ?_
  refine ev_sld hSc (hI 2 (by decide)) d_Law_law_166 ?_
  refine ev_aload_n d_Law_law_167 rfl rfl ?_
  refine ev_iload d_Law_law_168 rfl ?_
  refine ev_iconst (v := 3) d_Law_law_170 (by decide) ?_
  refine ev_iadd d_Law_law_171 ?_
  refine ev_sld hSc (hI 3 (by decide)) d_Law_law_172 ?_
  refine ev_aload_n d_Law_law_173 rfl rfl ?_
  refine ev_iload d_Law_law_174 rfl ?_
  refine ev_iconst (v := 4) d_Law_law_176 (by decide) ?_
  refine ev_iadd d_Law_law_177 ?_
  refine ev_sld hSc (hI 4 (by decide)) d_Law_law_178 ?_
  refine ev_aload_n d_Law_law_179 rfl rfl ?_
  refine ev_iload d_Law_law_180 rfl ?_
  refine ev_iconst (v := 5) d_Law_law_182 (by decide) ?_
  refine ev_iadd d_Law_law_183 ?_
  refine ev_sld hSc (hI 5 (by decide)) d_Law_law_184 ?_
  refine ev_Vn (ci := 9) [.int _, .int _, .int _, .int _, .int _] [] ca_Law_law_34 d_Law_law_185 rfl ((ov_M e1)) rfl (Nat.le_of_ble_eq_true rfl) (at_ov e1 (r_feed hT H _ _ _ _ _)) (fun h1 z => ?_)
  obtain ⟨L1, e2⟩ := ref_LX C1 O1 o1 ⟨fed_byt _ _ _ _ _, hy.2⟩ (eS_out he f1 (by decide)) (hdH_same hh (f1 61 (by decide)) (f1 63 (by decide))) z
  refine ev_goto (tgt := 760) d_Law_law_188 (by decide) ?_
  exact kk _ σ1 L1 (bR_of k1 e2)
/-- end, compared -/
theorem x_1 (hNm : gl_nm G) (hT : (gl_t G)[0]? = some (cI, .int)) (hZ : (gl_t G)[1]? = some (cZ, .boolean)) (hJ : (gl_t G)[2]? = some (cJ, .long)) (hE : gl_ex G s170) (hG : gSg G sa sb) (hS2 : gS2 G sa sb) (hSc : gl_sc G b L xs) (hI : ∀ k : Nat, k < 6 → vp_in (nI i + nI k) L) (L0 : LX cI cZ cJ X h σ B T F Q hd hc) {m : Nat} (hm1 : m ≤ 20) (hm2 : T.length + m ≤ 1500) (hx : xs (nI i + nI 1).toNatClampNeg = nI m) (kk : ∀ (h' : hp_T) (σ' : rwT), LX cI cZ cJ X h' σ' (List.replicate 20 0) (T ++ B.take m) F Q hd hc → bR h σ h' σ' → ev_E G m_Law_law 760 (lvQ b X i) [] h' Z) : ev_E G m_Law_law 191 (lvQ b X i) [] h Z := by
  obtain ⟨bd, P, gs, ch, I, R, ⟨C, O⟩, o, H, e, hy, he, hh⟩ := L0
  refine ev_aload_n d_Law_law_191 rfl rfl ?_
  refine ev_aload_n d_Law_law_192 rfl rfl ?_
  refine ev_iload d_Law_law_193 rfl ?_
  refine ev_iconst (v := 1) d_Law_law_195 (by decide) ?_
  refine ev_iadd d_Law_law_196 ?_
  refine ev_sld hSc (hI 1 (by decide)) d_Law_law_197 ?_
  refine ev_Vr (ci := 0) [.int _] [] ca_Law_law_35 d_Law_law_198 rfl (C.2.2.2.1) rfl (Nat.le_of_ble_eq_true rfl) (w_end hT C H.1.1 _) (fun v h1 z => ?_)
  rcases z with ⟨y1, -, -⟩ | ⟨m1, y1, y2, y3, rfl, z⟩
  · exact absurd ⟨m, hm1, hm2, hx⟩ y1
  · have em1 : m1 = m := (nI_eq (by omega) (by omega)).mp (y3.symm.trans hx)
    subst em1
    obtain ⟨σ1, ⟨C1, O1⟩, k1, f1⟩ := clP_Q C O z
    have hm : ∀ q, X + 70 ≤ q → q ≤ X + 98 → h1.2.2 q = h.2.2 q := fun q q1 q2 => kR_mid C.1 k1 mQ_mid q1 q2
    have o1 := mid_oC o hm
    have e1 := mid_ov e hm
    refine ev_aload_n d_Law_law_201 rfl rfl ?_
    refine ev_aload_n d_Law_law_202 rfl rfl ?_
    refine ev_iload d_Law_law_203 rfl ?_
    refine ev_iconst (v := 1) d_Law_law_205 (by decide) ?_
    refine ev_iadd d_Law_law_206 ?_
    refine ev_sld hSc (hI 1 (by decide)) d_Law_law_207 ?_
    refine ev_Vr (ci := 9) [.int _] [.int _] ca_Law_law_38 d_Law_law_208 rfl ((ov_M e1)) rfl (Nat.le_of_ble_eq_true rfl) (at_ov e1 (r_end hT H _)) (fun v h1 z => ?_)
    rcases z with ⟨x1, -, -⟩ | ⟨m2, x1, x2, x3, rfl, zz⟩
    · exact absurd ⟨m1, y1, y2, y3⟩ x1
    · have em : m2 = m1 := (nI_eq (by omega) (by omega)).mp (x3.symm.trans y3)
      subst em
      obtain ⟨L1, e2⟩ := ref_LX C1 O1 o1 ⟨zero_byt, fun x hx => (List.mem_append.mp hx).elim (hy.2.1 x) (fun z => hy.1 x (List.mem_of_mem_take z)), hy.2.2⟩ (eS_out he f1 (by decide)) (hdH_same hh (f1 61 (by decide)) (f1 63 (by decide))) zz
      refine ev_icmp_eq (tgt := 760) d_Law_law_211 (by decide) (fun _ => ?_) (fun z => absurd rfl z)
      exact kk _ σ1 L1 (bR_of k1 e2)
/-- read, compared -/
theorem x_2 (hNm : gl_nm G) (hT : (gl_t G)[0]? = some (cI, .int)) (hZ : (gl_t G)[1]? = some (cZ, .boolean)) (hJ : (gl_t G)[2]? = some (cJ, .long)) (hE : gl_ex G s170) (hG : gSg G sa sb) (hS2 : gS2 G sa sb) (hSc : gl_sc G b L xs) (hI : ∀ k : Nat, k < 6 → vp_in (nI i + nI k) L) (L0 : LX cI cZ cJ X h σ B T F Q hd hc)  (kk : ∀ (h' : hp_T) (σ' : rwT), LX cI cZ cJ X h' σ' B [] (rdS T.length T [] 0 false).1 Q hd hc → bR h σ h' σ' → ev_E G m_Law_law 760 (lvQ b X i) [] h' Z) : ev_E G m_Law_law 216 (lvQ b X i) [] h Z := by
  obtain ⟨bd, P, gs, ch, I, R, ⟨C, O⟩, o, H, e, hy, he, hh⟩ := L0
  refine ev_aload_n d_Law_law_216 rfl rfl ?_
  refine ev_Vr (ci := 0) [] [] ca_Law_law_39 d_Law_law_217 rfl (C.2.2.2.1) rfl (Nat.le_of_ble_eq_true rfl) (w_read hNm hT C) (fun v h1 z => ?_)
  obtain ⟨rfl, z⟩ := z
  obtain ⟨σ1, ⟨C1, O1⟩, k1, f1⟩ := clP_Q C O z
  have hm : ∀ q, X + 70 ≤ q → q ≤ X + 98 → h1.2.2 q = h.2.2 q := fun q q1 q2 => kR_mid C.1 k1 mQ_mid q1 q2
  have o1 := mid_oC o hm
  have e1 := mid_ov e hm
  refine ev_aload_n d_Law_law_220 rfl rfl ?_
  refine ev_Vr (ci := 9) [] [.int _] ca_Law_law_43 d_Law_law_221 rfl ((ov_M e1)) rfl (Nat.le_of_ble_eq_true rfl) (at_ov e1 (r_read hT H)) (fun v h1 z => ?_)
  obtain ⟨rfl, z⟩ := z
  obtain ⟨L1, e2⟩ := ref_LX C1 O1 o1 ⟨hy.1, fun x hx => (by cases hx), read_byt hy.2.1⟩ (eS_out he f1 (by decide)) (hdH_same hh (f1 61 (by decide)) (f1 63 (by decide))) z
  refine ev_icmp_eq (tgt := 760) d_Law_law_224 (by decide) (fun _ => ?_) (fun z => absurd rfl z)
  exact kk _ σ1 L1 (bR_of k1 e2)
/-- type, compared -/
theorem x_10 (hNm : gl_nm G) (hT : (gl_t G)[0]? = some (cI, .int)) (hZ : (gl_t G)[1]? = some (cZ, .boolean)) (hJ : (gl_t G)[2]? = some (cJ, .long)) (hE : gl_ex G s170) (hG : gSg G sa sb) (hS2 : gS2 G sa sb) (hSc : gl_sc G b L xs) (hI : ∀ k : Nat, k < 6 → vp_in (nI i + nI k) L) (L0 : LX cI cZ cJ X h σ B T F Q hd hc) {j : Nat} {q : List Int32 × List Int32} (hj : xs (nI i + nI 1).toNatClampNeg = nI j) (hq : F[j]? = some q) (kk : ∀ (h' : hp_T) (σ' : rwT), LX cI cZ cJ X h' σ' B T F (tyQs (wcut true q.2.length q.2)) none hc → bR h σ h' σ' → ev_E G m_Law_law 760 (lvQ b X i) [] h' Z) : ev_E G m_Law_law 508 (lvQ b X i) [] h Z := by
  obtain ⟨bd, P, gs, ch, I, R, ⟨C, O⟩, o, H, e, hy, he, hh⟩ := L0
  refine ev_aload_n d_Law_law_508 rfl rfl ?_
  refine ev_aload_n d_Law_law_509 rfl rfl ?_
  refine ev_iload d_Law_law_510 rfl ?_
  refine ev_iconst (v := 1) d_Law_law_512 (by decide) ?_
  refine ev_iadd d_Law_law_513 ?_
  refine ev_sld hSc (hI 1 (by decide)) d_Law_law_514 ?_
  refine ev_aload_n d_Law_law_515 rfl rfl ?_
  refine ev_callSH (ν := m_Law_type) (hs := hs_Law_type) [.ref X, .int _, .ref (X + 98)] [] (List.mem_cons_of_mem _ cw_Law_law_77.1.1) (List.mem_cons_of_mem _ cw_Law_law_77.1.2.1) (List.mem_cons_of_mem _ cw_Law_law_77.1.2.2) (List.mem_cons_of_mem _ cw_Law_law_77.2) (gi_W cw_Law_law_77.2) (n := 3) (by decide +kernel) (by decide) d_Law_law_516 rfl (Nat.le_of_ble_eq_true rfl) (y_Law_type hNm hT hJ hE hG hS2 hy C O o _) (fun o1 h1 z => ?_)
  obtain ⟨v, rfl, z⟩ := z
  have h40 := H.2.2.1.2.2.1
  have hb0 := (List.getElem?_eq_some_iff.mp hq).1
  rcases z with ⟨rfl, hs, -⟩ | ⟨j1, q1, rfl, hj1, hq1, σ1, ⟨K1, K2⟩, ⟨C1, O1⟩, ⟨g, hg, hgv⟩, hm, b1, f18⟩
  · rw [show xs (nI i + 1).toNatClampNeg = _ from hj] at hs; exact absurd hs (isF_yes h40 hq)
  · have hb1 := (List.getElem?_eq_some_iff.mp hq1).1
    have ej1 : j1 = j := (nI_eq (by omega) (by omega)).mp (hj1.symm.trans hj)
    subst ej1
    rw [hq] at hq1
    cases hq1
    have e1 := ov_of e hm
    have o1 : oC cJ X h1 := ⟨g, hg⟩
    show ev_E G m_Law_law 519 (lvQ b X i) [.int 0] _ _
    refine ev_istore d_Law_law_519 (by decide) ?_
    refine ev_aload_n d_Law_law_521 rfl rfl ?_
    refine ev_aload_n d_Law_law_522 rfl rfl ?_
    refine ev_iload d_Law_law_523 rfl ?_
    refine ev_iconst (v := 1) d_Law_law_525 (by decide) ?_
    refine ev_iadd d_Law_law_526 ?_
    refine ev_sld hSc (hI 1 (by decide)) d_Law_law_527 ?_
    refine ev_Vr (ci := 9) [.int _] [] ca_Law_law_79 d_Law_law_528 rfl ((ov_M e1)) rfl (Nat.le_of_ble_eq_true rfl) (at_ov e1 (r_type hT hZ H _)) (fun v h1 z => ?_)
    rcases z with ⟨z4, -⟩ | ⟨j2, q2, I1, R1, hj2, hq2, rfl, rfl, z2, z5, i24, i25⟩
    · rw [show xs (nI i + 1).toNatClampNeg = _ from hj] at z4; exact absurd z4 (isF_yes h40 hq)
    have hb2 := (List.getElem?_eq_some_iff.mp hq2).1
    have ej : j2 = j1 := (nI_eq (by omega) (by omega)).mp (hj2.symm.trans hj)
    subst ej
    rw [hq] at hq2
    cases hq2
    have he1 := eS_typ he K1 K2.1 K2.2
    have hth : I1 0 = 0 ∧ True := ⟨z5, trivial⟩
    refine ev_istore d_Law_law_531 (by decide) ?_
    refine ev_aload_n d_Law_law_533 rfl rfl ?_
    refine ev_Vv (ci := 9) [] [] ca_Law_law_68 d_Law_law_534 rfl (mo_self) rfl (Nat.le_of_ble_eq_true rfl) (c_Model_thrown) ?_
    rw [hth.1]
    refine ev_iload d_Law_law_537 rfl ?_
    refine ev_icmp_eq (tgt := 544) d_Law_law_539 (by decide) (fun _ => ?_) (fun z => absurd rfl z)
    refine ev_iload d_Law_law_544 rfl ?_
    refine ev_if_ne (tgt := 568) d_Law_law_546 (by decide) (fun z => absurd rfl z) (fun _ => ?_)
    refine ev_aload_n d_Law_law_549 rfl rfl ?_
    refine ev_iconst (v := 0) d_Law_law_550 (by decide) ?_
    refine ev_lald (n := 1) (f := g) hJ (by rw [ov_ne (by omega)]; exact hg) (pk_in 0 1 (by decide)) d_Law_law_551 ?_
    rw [show g (0 : Int32).toNatClampNeg = _ from hgv _ rfl]
    refine ev_iload d_Law_law_552 rfl ?_
    have fin : ∀ x : Int64, ev_E G m_Law_law 562 [(0, .ref b), (1, .ref X), (2, .ref (X + 70)), (3, .ref (X + 98)), (4, .int (nI i))] [.long x, .long x] (mo_ov cI cZ h1 (X + 70) I1 R1) Z := by
      intro x
      refine ev_lcmp d_Law_law_562 ?_
      rw [lg_same]
      refine ev_if_eq (tgt := 568) d_Law_law_563 (by decide) (fun _ => ?_) (fun z => absurd rfl z)
      refine ev_goto (tgt := 760) d_Law_law_568 (by decide) ?_
      obtain ⟨L1, e2⟩ := ref_LX (cZ := cZ) C1 O1 o1 hy he1 (hdH_same hh (K1 61 (by decide)) (K1 63 (by decide))) ⟨_, _, rfl, z2⟩
      exact kk _ σ1 L1 ⟨by rw [e2.1]; exact b1.1, by rw [e2.2]; exact b1.2⟩
    cases ht : (tyA (wcut true q.2.length q.2)).isSome with
    | false =>
      refine ev_if_eq (tgt := 561) d_Law_law_554 (by decide) (fun _ => ?_) (fun z => absurd rfl z)
      refine ev_lconst (v := 0) d_Law_law_561 (by decide) ?_
      exact ev_as (lvQ b X i) ⟨rfl, rfl, rfl, rfl, rfl, trivial⟩ (fin 0)
    | true =>
      refine ev_if_eq (tgt := 561) d_Law_law_554 (by decide) (fun z => absurd z (by decide)) (fun _ => ?_)
      refine ev_lconst (v := 1) d_Law_law_557 (by decide) ?_
      refine ev_goto (tgt := 562) d_Law_law_558 (by decide) ?_
      exact ev_as (lvQ b X i) ⟨rfl, rfl, rfl, rfl, rfl, trivial⟩ (fin 1)
/-- parameter, compared -/
theorem x_14 (hNm : gl_nm G) (hT : (gl_t G)[0]? = some (cI, .int)) (hZ : (gl_t G)[1]? = some (cZ, .boolean)) (hJ : (gl_t G)[2]? = some (cJ, .long)) (hE : gl_ex G s170) (hG : gSg G sa sb) (hS2 : gS2 G sa sb) (hSc : gl_sc G b L xs) (hI : ∀ k : Nat, k < 6 → vp_in (nI i + nI k) L) (L0 : LX cI cZ cJ X h σ B T F Q hd hc)  (kk : ∀ (h' : hp_T) (σ' : rwT), LX cI cZ cJ X h' σ' B [] F Q ((hdOf T Q).map (fun x => x.1)) (hdOf T Q) → bR h σ h' σ' → ev_E G m_Law_law 760 (lvQ b X i) [] h' Z) : ev_E G m_Law_law 694 (lvQ b X i) [] h Z := by
  obtain ⟨bd, P, gs, ch, I, R, ⟨C, O⟩, o, H, e, hy, he, hh⟩ := L0
  refine ev_aload_n d_Law_law_694 rfl rfl ?_
  refine ev_Vr (ci := 0) [] [] ca_Law_law_92 d_Law_law_695 rfl (C.2.2.2.1) rfl (Nat.le_of_ble_eq_true rfl) (z_parameter hNm hT C O H.2.2.2.2.2.1.2.2.1 he.1) (fun v h1 z => ?_)
  obtain ⟨rfl, z⟩ := z
  obtain ⟨σ1, ⟨C1, O1⟩, k1, f1, hh1⟩ := z
  have hm : ∀ q, X + 70 ≤ q → q ≤ X + 98 → h1.2.2 q = h.2.2 q := fun q q1 q2 => kR_mid C.1 k1 mQ_mid q1 q2
  have o1 := mid_oC o hm
  have e1 := mid_ov e hm
  refine ev_aload_n d_Law_law_698 rfl rfl ?_
  refine ev_Vr (ci := 9) [] [.int _] ca_Law_law_95 d_Law_law_699 rfl ((ov_M e1)) rfl (Nat.le_of_ble_eq_true rfl) (at_ov e1 (r_parameter hT hZ H)) (fun v h1 z => ?_)
  obtain ⟨rfl, z⟩ := z
  obtain ⟨L1, e2⟩ := ref_LX C1 O1 o1 ⟨hy.1, fun x hx => (by cases hx), hy.2.2⟩ (eS_out he f1 (by decide)) hh1 z
  refine ev_icmp_eq (tgt := 760) d_Law_law_702 (by decide) (fun _ => ?_) (fun z => absurd rfl z)
  exact kk _ σ1 L1 (bR_of k1 e2)
/-- parameterByte, compared -/
theorem x_15 (hNm : gl_nm G) (hT : (gl_t G)[0]? = some (cI, .int)) (hZ : (gl_t G)[1]? = some (cZ, .boolean)) (hJ : (gl_t G)[2]? = some (cJ, .long)) (hE : gl_ex G s170) (hG : gSg G sa sb) (hS2 : gS2 G sa sb) (hSc : gl_sc G b L xs) (hI : ∀ k : Nat, k < 6 → vp_in (nI i + nI k) L) (L0 : LX cI cZ cJ X h σ B T F Q hd hc) (hx : xs (nI i + nI 1).toNatClampNeg = 0) (hne : oB (hc.map (fun x => x.1)) (xs (nI i + nI 2).toNatClampNeg) ≠ oB hd (xs (nI i + nI 2).toNatClampNeg)) (kz : ∀ h' : hp_T, h'.1 = h.1 → h'.2.1 = h.2.1 → Z (some (.int 0)) h')  : ev_E G m_Law_law 707 (lvQ b X i) [] h Z := by
  obtain ⟨bd, P, gs, ch, I, R, ⟨C, O⟩, o, H, e, hy, he, hh⟩ := L0
  refine ev_aload_n d_Law_law_707 rfl rfl ?_
  refine ev_aload_n d_Law_law_708 rfl rfl ?_
  refine ev_iload d_Law_law_709 rfl ?_
  refine ev_iconst (v := 1) d_Law_law_711 (by decide) ?_
  refine ev_iadd d_Law_law_712 ?_
  refine ev_sld hSc (hI 1 (by decide)) d_Law_law_713 ?_
  refine ev_if_eq (tgt := 721) d_Law_law_714 (by decide) (fun _ => ?_) (fun z => absurd hx z)
  refine ev_iconst (v := 0) d_Law_law_721 (by decide) ?_
  show ev_E G m_Law_law 722 (lvQ b X i) [.int (bI false), .ref X] h Z
  refine ev_aload_n d_Law_law_722 rfl rfl ?_
  refine ev_iload d_Law_law_723 rfl ?_
  refine ev_iconst (v := 2) d_Law_law_725 (by decide) ?_
  refine ev_iadd d_Law_law_726 ?_
  refine ev_sld hSc (hI 2 (by decide)) d_Law_law_727 ?_
  refine ev_Vv (ci := 0) [.int (bI false), .int _] [] ca_Law_law_96 d_Law_law_728 rfl (C.2.2.2.1) rfl (Nat.le_of_ble_eq_true rfl) (z_parameterByte hT C.1 O C.2.2.2.1 hh false _) ?_
  refine ev_aload_n d_Law_law_731 rfl rfl ?_
  refine ev_aload_n d_Law_law_732 rfl rfl ?_
  refine ev_iload d_Law_law_733 rfl ?_
  refine ev_iconst (v := 1) d_Law_law_735 (by decide) ?_
  refine ev_iadd d_Law_law_736 ?_
  refine ev_sld hSc (hI 1 (by decide)) d_Law_law_737 ?_
  refine ev_if_eq (tgt := 745) d_Law_law_738 (by decide) (fun _ => ?_) (fun z => absurd hx z)
  refine ev_iconst (v := 0) d_Law_law_745 (by decide) ?_
  show ev_E G m_Law_law 746 (lvQ b X i) [.int (bI false), .ref (X + 70), _] h Z
  refine ev_aload_n d_Law_law_746 rfl rfl ?_
  refine ev_iload d_Law_law_747 rfl ?_
  refine ev_iconst (v := 2) d_Law_law_749 (by decide) ?_
  refine ev_iadd d_Law_law_750 ?_
  refine ev_sld hSc (hI 2 (by decide)) d_Law_law_751 ?_
  refine ev_Vr (ci := 9) [.int (bI false), .int _] [.int _] ca_Law_law_100 d_Law_law_752 rfl ((ov_M e)) rfl (Nat.le_of_ble_eq_true rfl) (at_ov e (r_parameterByte hT H false _)) (fun v h1 z => ?_)
  obtain ⟨rfl, z⟩ := z
  obtain ⟨L1, e2⟩ := ref_LX C O o hy he hh z
  refine ev_icmp_eq (tgt := 760) d_Law_law_755 (by decide) (fun z => absurd z hne) (fun _ => ?_)
  refine ev_iconst (v := 0) d_Law_law_758 (by decide) ?_
  refine ev_zret d_Law_law_759 rfl rfl ?_
  exact kz _ e2.1 e2.2
theorem x_h0 (hSc : gl_sc G b L xs) (hI0 : vp_in (nI i) L) (hc : ¬ (nI L - nI 6 < nI i)) (hx : xs (nI i).toNatClampNeg = nI 0) (k : ev_E G m_Law_law 120 (lvQ b X i) [] h Z) : ev_E G m_Law_law 23 (lvQ b X i) [] h Z := by
  refine ev_iload d_Law_law_23 rfl ?_
  refine ev_aload_n d_Law_law_25 rfl rfl ?_
  refine ev_slen hSc d_Law_law_26 ?_
  refine ev_bipush (v := 6) d_Law_law_27 (by decide) ?_
  refine ev_isub d_Law_law_29 ?_
  refine ev_icmp_gt (tgt := 766) d_Law_law_30 (by decide) (fun c => absurd (show nI L - nI 6 < nI i from c) hc) (fun _ => ?_)
  refine ev_aload_n d_Law_law_33 rfl rfl ?_
  refine ev_iload d_Law_law_34 rfl ?_
  refine ev_sld hSc hI0 d_Law_law_36 ?_
  refine ev_bipush (v := 15) d_Law_law_37 (by decide) ?_
  refine ev_iand d_Law_law_39 ?_
  obtain ⟨j, hj, ej⟩ := pk_andE (xs (nI i).toNatClampNeg) (m := 15) 4 (by decide)
  rw [ej]
  rw [hx] at ej
  have e1 : j = 0 := (nI_eq (by omega) (by decide)).mp (ej.symm.trans (by decide))
  subst e1
  exact ev_tableIn (off := 80) (tgt := 120) d_Law_law_40 (by decide) (by decide) (by decide) (by decide) k
theorem x_h1 (hSc : gl_sc G b L xs) (hI0 : vp_in (nI i) L) (hc : ¬ (nI L - nI 6 < nI i)) (hx : xs (nI i).toNatClampNeg = nI 1) (k : ev_E G m_Law_law 191 (lvQ b X i) [] h Z) : ev_E G m_Law_law 23 (lvQ b X i) [] h Z := by
  refine ev_iload d_Law_law_23 rfl ?_
  refine ev_aload_n d_Law_law_25 rfl rfl ?_
  refine ev_slen hSc d_Law_law_26 ?_
  refine ev_bipush (v := 6) d_Law_law_27 (by decide) ?_
  refine ev_isub d_Law_law_29 ?_
  refine ev_icmp_gt (tgt := 766) d_Law_law_30 (by decide) (fun c => absurd (show nI L - nI 6 < nI i from c) hc) (fun _ => ?_)
  refine ev_aload_n d_Law_law_33 rfl rfl ?_
  refine ev_iload d_Law_law_34 rfl ?_
  refine ev_sld hSc hI0 d_Law_law_36 ?_
  refine ev_bipush (v := 15) d_Law_law_37 (by decide) ?_
  refine ev_iand d_Law_law_39 ?_
  obtain ⟨j, hj, ej⟩ := pk_andE (xs (nI i).toNatClampNeg) (m := 15) 4 (by decide)
  rw [ej]
  rw [hx] at ej
  have e1 : j = 1 := (nI_eq (by omega) (by decide)).mp (ej.symm.trans (by decide))
  subst e1
  exact ev_tableIn (off := 151) (tgt := 191) d_Law_law_40 (by decide) (by decide) (by decide) (by decide) k
theorem x_h2 (hSc : gl_sc G b L xs) (hI0 : vp_in (nI i) L) (hc : ¬ (nI L - nI 6 < nI i)) (hx : xs (nI i).toNatClampNeg = nI 2) (k : ev_E G m_Law_law 216 (lvQ b X i) [] h Z) : ev_E G m_Law_law 23 (lvQ b X i) [] h Z := by
  refine ev_iload d_Law_law_23 rfl ?_
  refine ev_aload_n d_Law_law_25 rfl rfl ?_
  refine ev_slen hSc d_Law_law_26 ?_
  refine ev_bipush (v := 6) d_Law_law_27 (by decide) ?_
  refine ev_isub d_Law_law_29 ?_
  refine ev_icmp_gt (tgt := 766) d_Law_law_30 (by decide) (fun c => absurd (show nI L - nI 6 < nI i from c) hc) (fun _ => ?_)
  refine ev_aload_n d_Law_law_33 rfl rfl ?_
  refine ev_iload d_Law_law_34 rfl ?_
  refine ev_sld hSc hI0 d_Law_law_36 ?_
  refine ev_bipush (v := 15) d_Law_law_37 (by decide) ?_
  refine ev_iand d_Law_law_39 ?_
  obtain ⟨j, hj, ej⟩ := pk_andE (xs (nI i).toNatClampNeg) (m := 15) 4 (by decide)
  rw [ej]
  rw [hx] at ej
  have e1 : j = 2 := (nI_eq (by omega) (by decide)).mp (ej.symm.trans (by decide))
  subst e1
  exact ev_tableIn (off := 176) (tgt := 216) d_Law_law_40 (by decide) (by decide) (by decide) (by decide) k
theorem x_h10 (hSc : gl_sc G b L xs) (hI0 : vp_in (nI i) L) (hc : ¬ (nI L - nI 6 < nI i)) (hx : xs (nI i).toNatClampNeg = nI 10) (k : ev_E G m_Law_law 508 (lvQ b X i) [] h Z) : ev_E G m_Law_law 23 (lvQ b X i) [] h Z := by
  refine ev_iload d_Law_law_23 rfl ?_
  refine ev_aload_n d_Law_law_25 rfl rfl ?_
  refine ev_slen hSc d_Law_law_26 ?_
  refine ev_bipush (v := 6) d_Law_law_27 (by decide) ?_
  refine ev_isub d_Law_law_29 ?_
  refine ev_icmp_gt (tgt := 766) d_Law_law_30 (by decide) (fun c => absurd (show nI L - nI 6 < nI i from c) hc) (fun _ => ?_)
  refine ev_aload_n d_Law_law_33 rfl rfl ?_
  refine ev_iload d_Law_law_34 rfl ?_
  refine ev_sld hSc hI0 d_Law_law_36 ?_
  refine ev_bipush (v := 15) d_Law_law_37 (by decide) ?_
  refine ev_iand d_Law_law_39 ?_
  obtain ⟨j, hj, ej⟩ := pk_andE (xs (nI i).toNatClampNeg) (m := 15) 4 (by decide)
  rw [ej]
  rw [hx] at ej
  have e1 : j = 10 := (nI_eq (by omega) (by decide)).mp (ej.symm.trans (by decide))
  subst e1
  exact ev_tableIn (off := 468) (tgt := 508) d_Law_law_40 (by decide) (by decide) (by decide) (by decide) k
theorem x_h14 (hSc : gl_sc G b L xs) (hI0 : vp_in (nI i) L) (hc : ¬ (nI L - nI 6 < nI i)) (hx : xs (nI i).toNatClampNeg = nI 14) (k : ev_E G m_Law_law 694 (lvQ b X i) [] h Z) : ev_E G m_Law_law 23 (lvQ b X i) [] h Z := by
  refine ev_iload d_Law_law_23 rfl ?_
  refine ev_aload_n d_Law_law_25 rfl rfl ?_
  refine ev_slen hSc d_Law_law_26 ?_
  refine ev_bipush (v := 6) d_Law_law_27 (by decide) ?_
  refine ev_isub d_Law_law_29 ?_
  refine ev_icmp_gt (tgt := 766) d_Law_law_30 (by decide) (fun c => absurd (show nI L - nI 6 < nI i from c) hc) (fun _ => ?_)
  refine ev_aload_n d_Law_law_33 rfl rfl ?_
  refine ev_iload d_Law_law_34 rfl ?_
  refine ev_sld hSc hI0 d_Law_law_36 ?_
  refine ev_bipush (v := 15) d_Law_law_37 (by decide) ?_
  refine ev_iand d_Law_law_39 ?_
  obtain ⟨j, hj, ej⟩ := pk_andE (xs (nI i).toNatClampNeg) (m := 15) 4 (by decide)
  rw [ej]
  rw [hx] at ej
  have e1 : j = 14 := (nI_eq (by omega) (by decide)).mp (ej.symm.trans (by decide))
  subst e1
  exact ev_tableIn (off := 654) (tgt := 694) d_Law_law_40 (by decide) (by decide) (by decide) (by decide) k
theorem x_h15 (hSc : gl_sc G b L xs) (hI0 : vp_in (nI i) L) (hc : ¬ (nI L - nI 6 < nI i)) (hx : xs (nI i).toNatClampNeg = nI 15) (k : ev_E G m_Law_law 707 (lvQ b X i) [] h Z) : ev_E G m_Law_law 23 (lvQ b X i) [] h Z := by
  refine ev_iload d_Law_law_23 rfl ?_
  refine ev_aload_n d_Law_law_25 rfl rfl ?_
  refine ev_slen hSc d_Law_law_26 ?_
  refine ev_bipush (v := 6) d_Law_law_27 (by decide) ?_
  refine ev_isub d_Law_law_29 ?_
  refine ev_icmp_gt (tgt := 766) d_Law_law_30 (by decide) (fun c => absurd (show nI L - nI 6 < nI i from c) hc) (fun _ => ?_)
  refine ev_aload_n d_Law_law_33 rfl rfl ?_
  refine ev_iload d_Law_law_34 rfl ?_
  refine ev_sld hSc hI0 d_Law_law_36 ?_
  refine ev_bipush (v := 15) d_Law_law_37 (by decide) ?_
  refine ev_iand d_Law_law_39 ?_
  obtain ⟨j, hj, ej⟩ := pk_andE (xs (nI i).toNatClampNeg) (m := 15) 4 (by decide)
  rw [ej]
  rw [hx] at ej
  have e1 : j = 15 := (nI_eq (by omega) (by decide)).mp (ej.symm.trans (by decide))
  subst e1
  exact ev_tableIn (off := 667) (tgt := 707) d_Law_law_40 (by decide) (by decide) (by decide) (by decide) k
theorem x_tail (k : ev_E G m_Law_law 23 (lvQ b X (i + 6)) [] h Z) : ev_E G m_Law_law 760 (lvQ b X i) [] h Z := by
  refine ev_iinc d_Law_law_760 rfl (by decide) ?_
  refine ev_goto (tgt := 23) d_Law_law_763 (by decide) ?_
  rw [show nI i + Int32.ofInt 6 = nI (i + 6) from nI_add i 6]
  exact k
/-- feed 'T:a/b;n=v', end(9), read(), type(0), feed 'n', end(1), parameter(), type(0), parameterByte(false, 0) -/
def scrF : List Int32 := [0, 1413112111, 1648062013, 1979711488, 0, 0, 1, 9, 0, 0, 0, 0, 2, 0, 0, 0, 0, 0, 10, 0, 0, 0, 0, 0, 0, 1845493760, 0, 0, 0, 0, 1, 1, 0, 0, 0, 0, 14, 0, 0, 0, 0, 0, 10, 0, 0, 0, 0, 0, 15, 0, 0, 0, 0, 0]
abbrev tpF : List Int32 := [84, 58, 97, 47, 98, 59, 110, 61, 118]
abbrev vlF : List Int32 := [97, 47, 98, 59, 110, 61, 118]
abbrev fsF : Flds := [([84], vlF)]
abbrev qsF : List Prm := [([110], -1, false, [118])]
theorem F_T : ([] : List Int32) ++ (fedL (1413112111) (1648062013) (1979711488) (0) (0)).take 9 = tpF := by decide +kernel
theorem F_F : (rdS tpF.length tpF [] 0 false).1 = fsF := by decide +kernel
theorem F_Q : tyQs (wcut true vlF.length vlF) = qsF := by decide +kernel
theorem F_n : ([] : List Int32) ++ (fedL (1845493760) (0) (0) (0) (0)).take 1 = [110] := by decide +kernel
theorem F_h : hdOf [110] qsF = some ([118], []) := by decide +kernel
abbrev lzF (B1 B2 : Nat) : Option Value → hp_T → Prop := fun v h' => v = some (.int 0) ∧ h'.1 ≤ B1 ∧ h'.2.1 ≤ B2
theorem x_run {str : Nat} (hNm : gl_nm G) (hT : (gl_t G)[0]? = some (cI, .int)) (hZ : (gl_t G)[1]? = some (cZ, .boolean)) (hJ : (gl_t G)[2]? = some (cJ, .long)) (hE : gl_ex G s170) (hG : gSg G sa sb) (hS2 : gS2 G sa sb) (hSc : gl_sc G b 54 xs) (hxs : ∀ j, j < 54 → xs j = scrF.getD j 0) {c0 d0 : Nat} {h0 : hp_T} (F : fr cI str X h0) (hm : mf cI cZ (X + 70) h0) (ho : oC cJ X h0) (k1 : h0.1 = X + 99) (k2 : h0.2.1 = d0 + 56068) (hc : c0 = X) : ev_E G m_Law_law 23 (lvQ b X 0) [] h0 (lzF (c0 + 200000) (d0 + 400000)) := by
  have vx : ∀ (i k : Nat) (v : Int32), i + k < 54 → scrF.getD (i + k) 0 = v → xs (nI i + nI k).toNatClampNeg = v := by
    intro i k v hik e
    rw [nI_add, nI_clamp (by omega), hxs _ hik, e]
  have vz : ∀ (i : Nat) (v : Int32), i < 54 → scrF.getD i 0 = v → xs (nI i).toNatClampNeg = v := by
    intro i v hik e
    rw [nI_clamp (by omega), hxs _ hik, e]
  have vI : ∀ i : Nat, i + 6 ≤ 54 → ∀ k : Nat, k < 6 → vp_in (nI i + nI k) 54 := fun i hi k hk => by
    rw [nI_add]; exact vp_in_nI (by omega) (by omega)
  have v0 : ∀ i : Nat, i < 54 → vp_in (nI i) 54 := fun i hi => vp_in_nI (by omega) (by omega)
  have hsum : sumC (sg0 X) rws = 416 := by simp [sumC, rws, sg0]
  have L0 : LX cI cZ cJ X h0 (sg0 X) (List.replicate 20 0) [] [] [] none none := ⟨_, _, _, _, _, _, new_clS F (by omega), ho, mI_new, hm, ⟨zero_byt, (fun x hx => by cases hx), (fun x hx => by simp [fK] at hx)⟩, new_eS, ⟨rfl, rfl⟩⟩
  refine x_h0 (i := 0) hSc (v0 0 (by decide)) (by decide) (vz 0 _ (by decide) (by decide +kernel)) ?_
  refine x_0 (i := 0) hNm hT hZ hJ hE hG hS2 hSc (vI 0 (by decide)) L0 (fun h1 σ1 L1 r1 => x_tail ?_)
  show ev_E G m_Law_law 23 (lvQ b X 6) [] h1 _
  rw [vx 0 1 (1413112111) (by decide) (by decide +kernel), vx 0 2 (1648062013) (by decide) (by decide +kernel), vx 0 3 (1979711488) (by decide) (by decide +kernel), vx 0 4 (0) (by decide) (by decide +kernel), vx 0 5 (0) (by decide) (by decide +kernel)] at L1
  refine x_h1 (i := 6) hSc (v0 6 (by decide)) (by decide) (vz 6 _ (by decide) (by decide +kernel)) ?_
  refine x_1 (i := 6) hNm hT hZ hJ hE hG hS2 hSc (vI 6 (by decide)) L1 (m := 9) (by decide) (by decide) (vx 6 1 _ (by decide) (by decide +kernel)) (fun h2 σ2 L2 r2 => x_tail ?_)
  show ev_E G m_Law_law 23 (lvQ b X 12) [] h2 _
  replace L2 : LX cI cZ cJ X h2 σ2 (List.replicate 20 0) tpF [] [] none none := by
    first | (rw [F_T] at L2; exact L2) | (rw [← F_T]; exact L2)
  refine x_h2 (i := 12) hSc (v0 12 (by decide)) (by decide) (vz 12 _ (by decide) (by decide +kernel)) ?_
  refine x_2 (i := 12) hNm hT hZ hJ hE hG hS2 hSc (vI 12 (by decide)) L2 (fun h3 σ3 L3 r3 => x_tail ?_)
  show ev_E G m_Law_law 23 (lvQ b X 18) [] h3 _
  replace L3 : LX cI cZ cJ X h3 σ3 (List.replicate 20 0) [] fsF [] none none := by
    first | (rw [F_F] at L3; exact L3) | (rw [← F_F]; exact L3)
  refine x_h10 (i := 18) hSc (v0 18 (by decide)) (by decide) (vz 18 _ (by decide) (by decide +kernel)) ?_
  refine x_10 (i := 18) hNm hT hZ hJ hE hG hS2 hSc (vI 18 (by decide)) L3 (j := 0) (q := ([84], vlF)) (vx 18 1 _ (by decide) (by decide +kernel)) rfl (fun h4 σ4 L4 r4 => x_tail ?_)
  show ev_E G m_Law_law 23 (lvQ b X 24) [] h4 _
  replace L4 : LX cI cZ cJ X h4 σ4 (List.replicate 20 0) [] fsF qsF none none := by
    rw [← F_Q]
    exact L4
  refine x_h0 (i := 24) hSc (v0 24 (by decide)) (by decide) (vz 24 _ (by decide) (by decide +kernel)) ?_
  refine x_0 (i := 24) hNm hT hZ hJ hE hG hS2 hSc (vI 24 (by decide)) L4 (fun h5 σ5 L5 r5 => x_tail ?_)
  show ev_E G m_Law_law 23 (lvQ b X 30) [] h5 _
  rw [vx 24 1 (1845493760) (by decide) (by decide +kernel), vx 24 2 (0) (by decide) (by decide +kernel), vx 24 3 (0) (by decide) (by decide +kernel), vx 24 4 (0) (by decide) (by decide +kernel), vx 24 5 (0) (by decide) (by decide +kernel)] at L5
  refine x_h1 (i := 30) hSc (v0 30 (by decide)) (by decide) (vz 30 _ (by decide) (by decide +kernel)) ?_
  refine x_1 (i := 30) hNm hT hZ hJ hE hG hS2 hSc (vI 30 (by decide)) L5 (m := 1) (by decide) (by decide) (vx 30 1 _ (by decide) (by decide +kernel)) (fun h6 σ6 L6 r6 => x_tail ?_)
  show ev_E G m_Law_law 23 (lvQ b X 36) [] h6 _
  replace L6 : LX cI cZ cJ X h6 σ6 (List.replicate 20 0) [110] fsF qsF none none := by
    first | (rw [F_n] at L6; exact L6) | (rw [← F_n]; exact L6)
  refine x_h14 (i := 36) hSc (v0 36 (by decide)) (by decide) (vz 36 _ (by decide) (by decide +kernel)) ?_
  refine x_14 (i := 36) hNm hT hZ hJ hE hG hS2 hSc (vI 36 (by decide)) L6 (fun h7 σ7 L7 r7 => x_tail ?_)
  show ev_E G m_Law_law 23 (lvQ b X 42) [] h7 _
  replace L7 : LX cI cZ cJ X h7 σ7 (List.replicate 20 0) [] fsF qsF (some [118]) (some ([118], [])) := by
    first | (rw [F_h] at L7; exact L7) | (rw [← F_h]; exact L7)
  refine x_h10 (i := 42) hSc (v0 42 (by decide)) (by decide) (vz 42 _ (by decide) (by decide +kernel)) ?_
  refine x_10 (i := 42) hNm hT hZ hJ hE hG hS2 hSc (vI 42 (by decide)) L7 (j := 0) (q := ([84], vlF)) (vx 42 1 _ (by decide) (by decide +kernel)) rfl (fun h8 σ8 L8 r8 => x_tail ?_)
  show ev_E G m_Law_law 23 (lvQ b X 48) [] h8 _
  replace L8 : LX cI cZ cJ X h8 σ8 (List.replicate 20 0) [] fsF qsF none (some ([118], [])) := by
    rw [← F_Q]
    exact L8
  have hs8 := LX_sum L8
  obtain ⟨a1, b1⟩ := r1
  obtain ⟨a2, b2⟩ := r2
  obtain ⟨a3, b3⟩ := r3
  obtain ⟨a4, b4⟩ := r4
  obtain ⟨a5, b5⟩ := r5
  obtain ⟨a6, b6⟩ := r6
  obtain ⟨a7, b7⟩ := r7
  obtain ⟨a8, b8⟩ := r8
  refine x_h15 (i := 48) hSc (v0 48 (by decide)) (by decide) (vz 48 _ (by decide) (by decide +kernel)) ?_
  refine x_15 (i := 48) hNm hT hZ hJ hE hG hS2 hSc (vI 48 (by decide)) L8 (vx 48 1 _ (by decide) (by decide +kernel)) ?_ (fun h' e1 e2 => ⟨rfl, by omega, by omega⟩)
  rw [vx 48 2 0 (by decide) (by decide +kernel)]
  decide
set_option maxHeartbeats 4000000 in
/-- the law, from its entry -/
theorem x_law {str : Nat} (hNm : gl_nm G) (hT : (gl_t G)[0]? = some (cI, .int)) (hZ : (gl_t G)[1]? = some (cZ, .boolean)) (hJ : (gl_t G)[2]? = some (cJ, .long)) (hS : gl_sg G str) (hE : gl_ex G s170) (hG : gSg G sa sb) (hS2 : gS2 G sa sb) (hSc : gl_sc G b 54 xs) (hxs : ∀ j, j < 54 → xs j = scrF.getD j 0) (h : hp_T) : ev_E G m_Law_law 0 [(0, .ref b)] [] h (lzF (h.1 + 200000) (h.2.1 + 400000)) := by
  refine ev_new (fn_Law_8 rfl rfl) d_Law_law_0 ?_
  refine ev_dup d_Law_law_3 rfl ?_
  refine ev_In [] [.ref h.1] ca_Law_law_26 d_Law_law_4 rfl (Nat.le_of_ble_eq_true rfl) (c_Mail_init hT hS (hp_add h 9 (.inr (0, [.null, .null, .null, .null, .null, .null, .null, .null, .null]))) h.1 rfl (hp_add_self _ _ _)) (fun h1 z => ?_)
  obtain ⟨x1, x2, x3, x4⟩ := z
  have x1' : h1.1 = h.1 + 1 + 69 := x1
  have x2' : h1.2.1 = h.2.1 + 9 + 519 := x2
  refine ev_astore_n d_Law_law_7 rfl (by decide) ?_
  refine ev_new (fn_Law_27 rfl rfl) d_Law_law_8 ?_
  refine ev_dup d_Law_law_11 rfl ?_
  refine ev_In [] [.ref h1.1] ca_Law_law_29 d_Law_law_12 rfl (Nat.le_of_ble_eq_true rfl) (c_Model_init hT hZ _ h1.1 rfl (hp_add_self _ _ _)) (fun h2 y => ?_)
  have hm := mo_new y
  obtain ⟨y1, y2, y3, y4⟩ := y
  have y1' : h2.1 = h1.1 + 1 + 27 := y1
  have y2' : h2.2.1 = h1.2.1 + 45 + 55494 := y2
  refine ev_astore_n d_Law_law_15 rfl (by decide) ?_
  refine ev_iconst (v := 1) d_Law_law_16 (by decide) ?_
  refine ev_newa (atype := .long) (t0 := 2) (N := 1) (cA := cJ) (a0 := (1, .inr (.inl (fun _ => 0)))) (fun _ => rfl) (List.mem_cons_of_mem _ tw_1371) hJ (by decide) (by decide) (by decide) d_Law_law_17 ?_
  refine ev_astore_n d_Law_law_19 rfl (by decide) ?_
  refine ev_iconst (v := 0) d_Law_law_20 (by decide) ?_
  refine ev_istore d_Law_law_21 (by decide) ?_
  have e1 : h1.1 = h.1 + 70 := by omega
  have e2 : h2.1 = h.1 + 98 := by omega
  have F : fr cI str h.1 (hp_add h2 1 (.inl (cJ, 1, .inr (.inl (fun _ => 0))))) := by
    refine ⟨fun k hk => ?_, ?_⟩
    · rw [hp_add_ne (by omega), y4 _ (by omega), hp_add_ne (by omega)]
      exact x3 k hk
    · show h.1 + 69 < h2.1 + 1
      omega
  have hm2 : mf cI cZ (h.1 + 70) (hp_add h2 1 (.inl (cJ, 1, .inr (.inl (fun _ => 0))))) := by
    rw [← e1]
    exact mf_of hm (fun q q1 q2 => hp_add_ne (by omega))
  have ho : oC cJ h.1 (hp_add h2 1 (.inl (cJ, 1, .inr (.inl (fun _ => 0))))) := ⟨_, by rw [← e2]; exact hp_add_self _ _ _⟩
  have k1 : (hp_add h2 1 (.inl (cJ, 1, .inr (.inl (fun _ => 0))))).1 = h.1 + 99 := by show h2.1 + 1 = _; omega
  have k2 : (hp_add h2 1 (.inl (cJ, 1, .inr (.inl (fun _ => 0))))).2.1 = h.2.1 + 56068 := by show h2.2.1 + 1 = _; omega
  refine ev_as (lvQ b h.1 0) ⟨rfl, rfl, ?_, ?_, rfl, trivial⟩ (x_run hNm hT hZ hJ hE hG hS2 hSc hxs F hm2 ho k1 k2 rfl)
  · show some (Value.ref h1.1) = _; rw [e1]
  · show some (Value.ref h2.1) = _; rw [e2]
end LAW6
