section LAW3
variable {G : gl_G} {cI cZ cJ : ClassId} {X b L i s170 sa sb tm tz sm sz : Nat} {xs : Nat → Int32} {h : hp_T} {σ : rwT} {Z : Option Value → hp_T → Prop}
abbrev lvQ (b X i : Nat) : List (Nat × Value) := [(0, .ref b), (1, .ref X), (2, .ref (X + 70)), (3, .ref (X + 98)), (4, .int (nI i))]
theorem at_ov {μ : mt_M} {av : List Value} {M : Nat} {I : Nat → Int32} {R : Nat → Nat → Int32} {Z1 : Option Value → hp_T → Prop} (e : mo_ov cI cZ h M I R = h) (k : ct_E G μ av (mo_ov cI cZ h M I R) Z1) : ct_E G μ av h Z1 := e ▸ k
/-- feed -/
theorem q_0 (hNm : gl_nm G) (hT : (gl_t G)[0]? = some (cI, .int)) (hZ : (gl_t G)[1]? = some (cZ, .boolean)) (hJ : (gl_t G)[2]? = some (cJ, .long)) (hE : gl_ex G s170) (hG : gSg G sa sb) (hS2 : gS2 G sa sb) (hD : gDt G tm tz sm sz) (hSc : gl_sc G b L xs) (hI : ∀ k : Nat, k < 6 → vp_in (nI i + nI k) L) (L0 : LI5 cI cZ cJ X h σ) (kk : ∀ (h' : hp_T) (σ' : rwT), LI5 cI cZ cJ X h' σ' → bR h σ h' σ' → ev_E G m_Law_law 642 (lvQ b X i) [] h' Z) : ev_E G m_Law_law 120 (lvQ b X i) [] h Z := by
  obtain ⟨B, T, F, bd, P, gs, Q, hd, ch, I, R, ⟨C, O⟩, o, H, e, hy, he, ht⟩ := L0
  refine ev_aload_n d_Law_law_120 rfl rfl ?_
  refine ev_aload_n d_Law_law_121 rfl rfl ?_
  refine ev_iload d_Law_law_122 rfl ?_
  refine ev_iconst (v := 1) d_Law_law_124 (by decide) ?_
  refine ev_iadd d_Law_law_125 ?_
  refine ev_sld hSc (hI 1 (by decide)) d_Law_law_126 ?_
  refine ev_aload_n d_Law_law_127 rfl rfl ?_
  refine ev_iload d_Law_law_128 rfl ?_
  refine ev_iconst (v := 2) d_Law_law_130 (by decide) ?_
  refine ev_iadd d_Law_law_131 ?_
  refine ev_sld hSc (hI 2 (by decide)) d_Law_law_132 ?_
  refine ev_aload_n d_Law_law_133 rfl rfl ?_
  refine ev_iload d_Law_law_134 rfl ?_
  refine ev_iconst (v := 3) d_Law_law_136 (by decide) ?_
  refine ev_iadd d_Law_law_137 ?_
  refine ev_sld hSc (hI 3 (by decide)) d_Law_law_138 ?_
  refine ev_aload_n d_Law_law_139 rfl rfl ?_
  refine ev_iload d_Law_law_140 rfl ?_
  refine ev_iconst (v := 4) d_Law_law_142 (by decide) ?_
  refine ev_iadd d_Law_law_143 ?_
  refine ev_sld hSc (hI 4 (by decide)) d_Law_law_144 ?_
  refine ev_aload_n d_Law_law_145 rfl rfl ?_
  refine ev_iload d_Law_law_146 rfl ?_
  refine ev_iconst (v := 5) d_Law_law_148 (by decide) ?_
  refine ev_iadd d_Law_law_149 ?_
  refine ev_sld hSc (hI 5 (by decide)) d_Law_law_150 ?_
  refine ev_Vn (ci := 0) [.int _, .int _, .int _, .int _, .int _] [] ca_Law_law_30 d_Law_law_151 rfl (C.2.2.2.1) rfl (Nat.le_of_ble_eq_true rfl) (w_feed hT C _ _ _ _ _) (fun h1 z => ?_)
  obtain ⟨σ1, ⟨C1, O1⟩, k1, f1⟩ := clP_Q C O z
  have hm : ∀ q, X + 70 ≤ q → q ≤ X + 98 → h1.2.2 q = h.2.2 q := fun q q1 q2 => kR_mid C.1 k1 mQ_mid q1 q2
  have o1 := mid_oC o hm
  have e1 := mid_ov e hm
  refine ev_aload_n d_Law_law_154 rfl rfl ?_
  refine ev_aload_n d_Law_law_155 rfl rfl ?_
  refine ev_iload d_Law_law_156 rfl ?_
  refine ev_iconst (v := 1) d_Law_law_158 (by decide) ?_
  refine ev_iadd d_Law_law_159 ?_
  refine ev_sld hSc (hI 1 (by decide)) d_Law_law_160 ?_
  refine ev_aload_n d_Law_law_161 rfl rfl ?_
  refine ev_iload d_Law_law_162 rfl ?_
  refine ev_iconst (v := 2) d_Law_law_164 (by decide) ?_
  refine ev_iadd d_Law_law_165 ?_
  refine ev_sld hSc (hI 2 (by decide)) d_Law_law_166 ?_
  refine ev_aload_n d_Law_law_167 rfl rfl ?_
  refine ev_iload d_Law_law_168 rfl ?_
  refine ev_iconst (v := 3) d_Law_law_170 (by decide) ?_
  refine ev_iadd d_Law_law_171 ?_
  refine ev_sld hSc (hI 3 (by decide)) d_Law_law_172 ?_
  refine ev_aload_n d_Law_law_173 rfl rfl ?_
  refine ev_iload d_Law_law_174 rfl ?_
  refine ev_iconst (v := 4) d_Law_law_176 (by decide) ?_
  refine ev_iadd d_Law_law_177 ?_
  refine ev_sld hSc (hI 4 (by decide)) d_Law_law_178 ?_
  refine ev_aload_n d_Law_law_179 rfl rfl ?_
  refine ev_iload d_Law_law_180 rfl ?_
  refine ev_iconst (v := 5) d_Law_law_182 (by decide) ?_
  refine ev_iadd d_Law_law_183 ?_
  refine ev_sld hSc (hI 5 (by decide)) d_Law_law_184 ?_
  refine ev_Vn (ci := 9) [.int _, .int _, .int _, .int _, .int _] [] ca_Law_law_34 d_Law_law_185 rfl ((ov_M e1)) rfl (Nat.le_of_ble_eq_true rfl) (at_ov e1 (v_feed hT H _ _ _ _ _)) (fun h1 z => ?_)
  obtain ⟨L1, e2⟩ := ref_LI5 C1 O1 o1 ⟨fed_byt _ _ _ _ _, hy.2⟩ (eS_out he f1 (by decide)) (eAd_cl ht (kR_18 C.1 k1 O) f1 (by decide)) z
  refine ev_goto (tgt := 642) d_Law_law_188 (by decide) ?_
  exact kk _ σ1 L1 (bR_of k1 e2)
/-- end -/
theorem q_1 (hNm : gl_nm G) (hT : (gl_t G)[0]? = some (cI, .int)) (hZ : (gl_t G)[1]? = some (cZ, .boolean)) (hJ : (gl_t G)[2]? = some (cJ, .long)) (hE : gl_ex G s170) (hG : gSg G sa sb) (hS2 : gS2 G sa sb) (hD : gDt G tm tz sm sz) (hSc : gl_sc G b L xs) (hI : ∀ k : Nat, k < 6 → vp_in (nI i + nI k) L) (L0 : LI5 cI cZ cJ X h σ) (kk : ∀ (h' : hp_T) (σ' : rwT), LI5 cI cZ cJ X h' σ' → bR h σ h' σ' → ev_E G m_Law_law 642 (lvQ b X i) [] h' Z) : ev_E G m_Law_law 191 (lvQ b X i) [] h Z := by
  obtain ⟨B, T, F, bd, P, gs, Q, hd, ch, I, R, ⟨C, O⟩, o, H, e, hy, he, ht⟩ := L0
  refine ev_aload_n d_Law_law_191 rfl rfl ?_
  refine ev_aload_n d_Law_law_192 rfl rfl ?_
  refine ev_iload d_Law_law_193 rfl ?_
  refine ev_iconst (v := 1) d_Law_law_195 (by decide) ?_
  refine ev_iadd d_Law_law_196 ?_
  refine ev_sld hSc (hI 1 (by decide)) d_Law_law_197 ?_
  refine ev_Vr (ci := 0) [.int _] [] ca_Law_law_35 d_Law_law_198 rfl (C.2.2.2.1) rfl (Nat.le_of_ble_eq_true rfl) (w_end hT C H.1.1 _) (fun v h1 z => ?_)
  rcases z with ⟨y1, rfl, rfl⟩ | ⟨m, y1, y2, y3, rfl, z⟩
  · refine ev_pop d_Law_law_201 rfl ?_
    refine ev_aload_n d_Law_law_202 rfl rfl ?_
    refine ev_aload_n d_Law_law_203 rfl rfl ?_
    refine ev_iload d_Law_law_204 rfl ?_
    refine ev_iconst (v := 1) d_Law_law_206 (by decide) ?_
    refine ev_iadd d_Law_law_207 ?_
    refine ev_sld hSc (hI 1 (by decide)) d_Law_law_208 ?_
    refine ev_Vr (ci := 9) [.int _] [] ca_Law_law_38 d_Law_law_209 rfl ((ov_M e)) rfl (Nat.le_of_ble_eq_true rfl) (at_ov e (v_end hT H _)) (fun v h1 z => ?_)
    rcases z with ⟨x1, rfl, z⟩ | ⟨m, x1, x2, x3, -⟩
    · obtain ⟨L1, e2⟩ := ref_LI5 C O o hy he ht z
      refine ev_pop d_Law_law_212 rfl ?_
      refine ev_goto (tgt := 642) d_Law_law_213 (by decide) ?_
      exact kk _ σ L1 (bR_rf e2)
    · exact absurd ⟨m, x1, x2, x3⟩ y1
  · obtain ⟨σ1, ⟨C1, O1⟩, k1, f1⟩ := clP_Q C O z
    have hm : ∀ q, X + 70 ≤ q → q ≤ X + 98 → h1.2.2 q = h.2.2 q := fun q q1 q2 => kR_mid C.1 k1 mQ_mid q1 q2
    have o1 := mid_oC o hm
    have e1 := mid_ov e hm
    refine ev_pop d_Law_law_201 rfl ?_
    refine ev_aload_n d_Law_law_202 rfl rfl ?_
    refine ev_aload_n d_Law_law_203 rfl rfl ?_
    refine ev_iload d_Law_law_204 rfl ?_
    refine ev_iconst (v := 1) d_Law_law_206 (by decide) ?_
    refine ev_iadd d_Law_law_207 ?_
    refine ev_sld hSc (hI 1 (by decide)) d_Law_law_208 ?_
    refine ev_Vr (ci := 9) [.int _] [] ca_Law_law_38 d_Law_law_209 rfl ((ov_M e1)) rfl (Nat.le_of_ble_eq_true rfl) (at_ov e1 (v_end hT H _)) (fun v h1 z => ?_)
    rcases z with ⟨x1, -, -⟩ | ⟨m2, x1, x2, x3, rfl, zz⟩
    · exact absurd ⟨m, y1, y2, y3⟩ x1
    · have em : m2 = m := (nI_eq (by omega) (by omega)).mp (x3.symm.trans y3)
      subst em
      obtain ⟨L1, e2⟩ := ref_LI5 C1 O1 o1 ⟨zero_byt, fun x hx => (List.mem_append.mp hx).elim (hy.2.1 x) (fun z => hy.1 x (List.mem_of_mem_take z)), hy.2.2⟩ (eS_out he f1 (by decide)) (eAd_cl ht (kR_18 C.1 k1 O) f1 (by decide)) zz
      refine ev_pop d_Law_law_212 rfl ?_
      refine ev_goto (tgt := 642) d_Law_law_213 (by decide) ?_
      exact kk _ σ1 L1 (bR_of k1 e2)
/-- read -/
theorem q_2 (hNm : gl_nm G) (hT : (gl_t G)[0]? = some (cI, .int)) (hZ : (gl_t G)[1]? = some (cZ, .boolean)) (hJ : (gl_t G)[2]? = some (cJ, .long)) (hE : gl_ex G s170) (hG : gSg G sa sb) (hS2 : gS2 G sa sb) (hD : gDt G tm tz sm sz) (hSc : gl_sc G b L xs) (hI : ∀ k : Nat, k < 6 → vp_in (nI i + nI k) L) (L0 : LI5 cI cZ cJ X h σ) (kk : ∀ (h' : hp_T) (σ' : rwT), LI5 cI cZ cJ X h' σ' → bR h σ h' σ' → ev_E G m_Law_law 642 (lvQ b X i) [] h' Z) : ev_E G m_Law_law 216 (lvQ b X i) [] h Z := by
  obtain ⟨B, T, F, bd, P, gs, Q, hd, ch, I, R, ⟨C, O⟩, o, H, e, hy, he, ht⟩ := L0
  refine ev_aload_n d_Law_law_216 rfl rfl ?_
  refine ev_Vr (ci := 0) [] [] ca_Law_law_39 d_Law_law_217 rfl (C.2.2.2.1) rfl (Nat.le_of_ble_eq_true rfl) (w_read hNm hT C) (fun v h1 z => ?_)
  obtain ⟨rfl, z⟩ := z
  obtain ⟨σ1, ⟨C1, O1⟩, k1, f1⟩ := clP_Q C O z
  have hm : ∀ q, X + 70 ≤ q → q ≤ X + 98 → h1.2.2 q = h.2.2 q := fun q q1 q2 => kR_mid C.1 k1 mQ_mid q1 q2
  have o1 := mid_oC o hm
  have e1 := mid_ov e hm
  refine ev_pop d_Law_law_220 rfl ?_
  refine ev_aload_n d_Law_law_221 rfl rfl ?_
  refine ev_Vr (ci := 9) [] [] ca_Law_law_43 d_Law_law_222 rfl ((ov_M e1)) rfl (Nat.le_of_ble_eq_true rfl) (at_ov e1 (v_read hT H)) (fun v h1 z => ?_)
  obtain ⟨rfl, z⟩ := z
  obtain ⟨L1, e2⟩ := ref_LI5 C1 O1 o1 ⟨hy.1, fun x hx => (by cases hx), read_byt hy.2.1⟩ (eS_out he f1 (by decide)) (eAd_cl ht (kR_18 C.1 k1 O) f1 (by decide)) z
  refine ev_pop d_Law_law_225 rfl ?_
  refine ev_goto (tgt := 642) d_Law_law_226 (by decide) ?_
  exact kk _ σ1 L1 (bR_of k1 e2)
/-- bad -/
theorem q_3 (hNm : gl_nm G) (hT : (gl_t G)[0]? = some (cI, .int)) (hZ : (gl_t G)[1]? = some (cZ, .boolean)) (hJ : (gl_t G)[2]? = some (cJ, .long)) (hE : gl_ex G s170) (hG : gSg G sa sb) (hS2 : gS2 G sa sb) (hD : gDt G tm tz sm sz) (hSc : gl_sc G b L xs) (hI : ∀ k : Nat, k < 6 → vp_in (nI i + nI k) L) (L0 : LI5 cI cZ cJ X h σ) (kk : ∀ (h' : hp_T) (σ' : rwT), LI5 cI cZ cJ X h' σ' → bR h σ h' σ' → ev_E G m_Law_law 642 (lvQ b X i) [] h' Z) : ev_E G m_Law_law 229 (lvQ b X i) [] h Z := by
  obtain ⟨B, T, F, bd, P, gs, Q, hd, ch, I, R, ⟨C, O⟩, o, H, e, hy, he, ht⟩ := L0
  refine ev_aload_n d_Law_law_229 rfl rfl ?_
  refine ev_Vv (ci := 0) [] [] ca_Law_law_44 d_Law_law_230 rfl (C.2.2.2.1) rfl (Nat.le_of_ble_eq_true rfl) (w_bad C) ?_
  refine ev_pop d_Law_law_233 rfl ?_
  refine ev_aload_n d_Law_law_234 rfl rfl ?_
  refine ev_Vr (ci := 9) [] [] ca_Law_law_47 d_Law_law_235 rfl ((ov_M e)) rfl (Nat.le_of_ble_eq_true rfl) (at_ov e (v_bad H)) (fun v h1 z => ?_)
  obtain ⟨rfl, z⟩ := z
  obtain ⟨L1, e2⟩ := ref_LI5 C O o hy he ht z
  refine ev_pop d_Law_law_238 rfl ?_
  refine ev_goto (tgt := 642) d_Law_law_239 (by decide) ?_
  exact kk _ σ L1 (bR_rf e2)
/-- find -/
theorem q_4 (hNm : gl_nm G) (hT : (gl_t G)[0]? = some (cI, .int)) (hZ : (gl_t G)[1]? = some (cZ, .boolean)) (hJ : (gl_t G)[2]? = some (cJ, .long)) (hE : gl_ex G s170) (hG : gSg G sa sb) (hS2 : gS2 G sa sb) (hD : gDt G tm tz sm sz) (hSc : gl_sc G b L xs) (hI : ∀ k : Nat, k < 6 → vp_in (nI i + nI k) L) (L0 : LI5 cI cZ cJ X h σ) (kk : ∀ (h' : hp_T) (σ' : rwT), LI5 cI cZ cJ X h' σ' → bR h σ h' σ' → ev_E G m_Law_law 642 (lvQ b X i) [] h' Z) : ev_E G m_Law_law 242 (lvQ b X i) [] h Z := by
  obtain ⟨B, T, F, bd, P, gs, Q, hd, ch, I, R, ⟨C, O⟩, o, H, e, hy, he, ht⟩ := L0
  refine ev_aload_n d_Law_law_242 rfl rfl ?_
  refine ev_Vr (ci := 0) [] [] ca_Law_law_48 d_Law_law_243 rfl (C.2.2.2.1) rfl (Nat.le_of_ble_eq_true rfl) (w_find hNm hT C) (fun v h1 z => ?_)
  obtain ⟨rfl, z⟩ := z
  obtain ⟨σ1, ⟨C1, O1⟩, k1, f1⟩ := clP_Q C O z
  have hm : ∀ q, X + 70 ≤ q → q ≤ X + 98 → h1.2.2 q = h.2.2 q := fun q q1 q2 => kR_mid C.1 k1 mQ_mid q1 q2
  have o1 := mid_oC o hm
  have e1 := mid_ov e hm
  refine ev_pop d_Law_law_246 rfl ?_
  refine ev_aload_n d_Law_law_247 rfl rfl ?_
  refine ev_Vr (ci := 9) [] [] ca_Law_law_51 d_Law_law_248 rfl ((ov_M e1)) rfl (Nat.le_of_ble_eq_true rfl) (at_ov e1 (v_find hT H)) (fun v h1 z => ?_)
  obtain ⟨rfl, z⟩ := z
  obtain ⟨L1, e2⟩ := ref_LI5 C1 O1 o1 ⟨hy.1, fun x hx => (by cases hx), hy.2.2⟩ (eS_out he f1 (by decide)) (eAd_cl ht (kR_18 C.1 k1 O) f1 (by decide)) z
  refine ev_pop d_Law_law_251 rfl ?_
  refine ev_goto (tgt := 642) d_Law_law_252 (by decide) ?_
  exact kk _ σ1 L1 (bR_of k1 e2)
/-- field -/
theorem q_5 (hNm : gl_nm G) (hT : (gl_t G)[0]? = some (cI, .int)) (hZ : (gl_t G)[1]? = some (cZ, .boolean)) (hJ : (gl_t G)[2]? = some (cJ, .long)) (hE : gl_ex G s170) (hG : gSg G sa sb) (hS2 : gS2 G sa sb) (hD : gDt G tm tz sm sz) (hSc : gl_sc G b L xs) (hI : ∀ k : Nat, k < 6 → vp_in (nI i + nI k) L) (L0 : LI5 cI cZ cJ X h σ) (kk : ∀ (h' : hp_T) (σ' : rwT), LI5 cI cZ cJ X h' σ' → bR h σ h' σ' → ev_E G m_Law_law 642 (lvQ b X i) [] h' Z) : ev_E G m_Law_law 255 (lvQ b X i) [] h Z := by
  obtain ⟨B, T, F, bd, P, gs, Q, hd, ch, I, R, ⟨C, O⟩, o, H, e, hy, he, ht⟩ := L0
  refine ev_aload_n d_Law_law_255 rfl rfl ?_
  refine ev_aload_n d_Law_law_256 rfl rfl ?_
  refine ev_iload d_Law_law_257 rfl ?_
  refine ev_iconst (v := 1) d_Law_law_259 (by decide) ?_
  refine ev_iadd d_Law_law_260 ?_
  refine ev_sld hSc (hI 1 (by decide)) d_Law_law_261 ?_
  refine ev_aload_n d_Law_law_262 rfl rfl ?_
  refine ev_iload d_Law_law_263 rfl ?_
  refine ev_iconst (v := 2) d_Law_law_265 (by decide) ?_
  refine ev_iadd d_Law_law_266 ?_
  refine ev_sld hSc (hI 2 (by decide)) d_Law_law_267 ?_
  refine ev_Vv (ci := 0) [.int _, .int _] [] ca_Law_law_52 d_Law_law_268 rfl (C.2.2.2.1) rfl (Nat.le_of_ble_eq_true rfl) (w_field hT C _ _) ?_
  refine ev_pop d_Law_law_271 rfl ?_
  refine ev_aload_n d_Law_law_272 rfl rfl ?_
  refine ev_aload_n d_Law_law_273 rfl rfl ?_
  refine ev_iload d_Law_law_274 rfl ?_
  refine ev_iconst (v := 1) d_Law_law_276 (by decide) ?_
  refine ev_iadd d_Law_law_277 ?_
  refine ev_sld hSc (hI 1 (by decide)) d_Law_law_278 ?_
  refine ev_aload_n d_Law_law_279 rfl rfl ?_
  refine ev_iload d_Law_law_280 rfl ?_
  refine ev_iconst (v := 2) d_Law_law_282 (by decide) ?_
  refine ev_iadd d_Law_law_283 ?_
  refine ev_sld hSc (hI 2 (by decide)) d_Law_law_284 ?_
  refine ev_Vr (ci := 9) [.int _, .int _] [] ca_Law_law_56 d_Law_law_285 rfl ((ov_M e)) rfl (Nat.le_of_ble_eq_true rfl) (at_ov e (v_field hT H _ _)) (fun v h1 z => ?_)
  obtain ⟨rfl, z⟩ := z
  obtain ⟨L1, e2⟩ := ref_LI5 C O o hy he ht z
  refine ev_pop d_Law_law_288 rfl ?_
  refine ev_goto (tgt := 642) d_Law_law_289 (by decide) ?_
  exact kk _ σ L1 (bR_rf e2)
/-- fieldByte -/
theorem q_6 (hNm : gl_nm G) (hT : (gl_t G)[0]? = some (cI, .int)) (hZ : (gl_t G)[1]? = some (cZ, .boolean)) (hJ : (gl_t G)[2]? = some (cJ, .long)) (hE : gl_ex G s170) (hG : gSg G sa sb) (hS2 : gS2 G sa sb) (hD : gDt G tm tz sm sz) (hSc : gl_sc G b L xs) (hI : ∀ k : Nat, k < 6 → vp_in (nI i + nI k) L) (L0 : LI5 cI cZ cJ X h σ) (kk : ∀ (h' : hp_T) (σ' : rwT), LI5 cI cZ cJ X h' σ' → bR h σ h' σ' → ev_E G m_Law_law 642 (lvQ b X i) [] h' Z) : ev_E G m_Law_law 292 (lvQ b X i) [] h Z := by
  obtain ⟨B, T, F, bd, P, gs, Q, hd, ch, I, R, ⟨C, O⟩, o, H, e, hy, he, ht⟩ := L0
  refine ev_aload_n d_Law_law_292 rfl rfl ?_
  refine ev_aload_n d_Law_law_293 rfl rfl ?_
  refine ev_iload d_Law_law_294 rfl ?_
  refine ev_iconst (v := 1) d_Law_law_296 (by decide) ?_
  refine ev_iadd d_Law_law_297 ?_
  refine ev_sld hSc (hI 1 (by decide)) d_Law_law_298 ?_
  refine ev_aload_n d_Law_law_299 rfl rfl ?_
  refine ev_iload d_Law_law_300 rfl ?_
  refine ev_iconst (v := 2) d_Law_law_302 (by decide) ?_
  refine ev_iadd d_Law_law_303 ?_
  refine ev_sld hSc (hI 2 (by decide)) d_Law_law_304 ?_
  refine ev_aload_n d_Law_law_305 rfl rfl ?_
  refine ev_iload d_Law_law_306 rfl ?_
  refine ev_iconst (v := 3) d_Law_law_308 (by decide) ?_
  refine ev_iadd d_Law_law_309 ?_
  refine ev_sld hSc (hI 3 (by decide)) d_Law_law_310 ?_
  refine ev_Vv (ci := 0) [.int _, .int _, .int _] [] ca_Law_law_57 d_Law_law_311 rfl (C.2.2.2.1) rfl (Nat.le_of_ble_eq_true rfl) (w_fieldByte hT C _ _ _) ?_
  refine ev_pop d_Law_law_314 rfl ?_
  refine ev_aload_n d_Law_law_315 rfl rfl ?_
  refine ev_aload_n d_Law_law_316 rfl rfl ?_
  refine ev_iload d_Law_law_317 rfl ?_
  refine ev_iconst (v := 1) d_Law_law_319 (by decide) ?_
  refine ev_iadd d_Law_law_320 ?_
  refine ev_sld hSc (hI 1 (by decide)) d_Law_law_321 ?_
  refine ev_aload_n d_Law_law_322 rfl rfl ?_
  refine ev_iload d_Law_law_323 rfl ?_
  refine ev_iconst (v := 2) d_Law_law_325 (by decide) ?_
  refine ev_iadd d_Law_law_326 ?_
  refine ev_sld hSc (hI 2 (by decide)) d_Law_law_327 ?_
  refine ev_aload_n d_Law_law_328 rfl rfl ?_
  refine ev_iload d_Law_law_329 rfl ?_
  refine ev_iconst (v := 3) d_Law_law_331 (by decide) ?_
  refine ev_iadd d_Law_law_332 ?_
  refine ev_sld hSc (hI 3 (by decide)) d_Law_law_333 ?_
  refine ev_Vr (ci := 9) [.int _, .int _, .int _] [] ca_Law_law_61 d_Law_law_334 rfl ((ov_M e)) rfl (Nat.le_of_ble_eq_true rfl) (at_ov e (v_fieldByte hT H _ _ _)) (fun v h1 z => ?_)
  obtain ⟨rfl, z⟩ := z
  obtain ⟨L1, e2⟩ := ref_LI5 C O o hy he ht z
  refine ev_pop d_Law_law_337 rfl ?_
  refine ev_goto (tgt := 642) d_Law_law_338 (by decide) ?_
  exact kk _ σ L1 (bR_rf e2)
/-- addresses -/
theorem q_7 (hNm : gl_nm G) (hT : (gl_t G)[0]? = some (cI, .int)) (hZ : (gl_t G)[1]? = some (cZ, .boolean)) (hJ : (gl_t G)[2]? = some (cJ, .long)) (hE : gl_ex G s170) (hG : gSg G sa sb) (hS2 : gS2 G sa sb) (hD : gDt G tm tz sm sz) (hSc : gl_sc G b L xs) (hI : ∀ k : Nat, k < 6 → vp_in (nI i + nI k) L) (L0 : LI5 cI cZ cJ X h σ) (kk : ∀ (h' : hp_T) (σ' : rwT), LI5 cI cZ cJ X h' σ' → bR h σ h' σ' → ev_E G m_Law_law 642 (lvQ b X i) [] h' Z) : ev_E G m_Law_law 341 (lvQ b X i) [] h Z := by
  obtain ⟨B, T, F, bd, P, gs, Q, hd, ch, I, R, ⟨C, O⟩, o, H, e, hy, he, ht⟩ := L0
  refine ev_aload_n d_Law_law_341 rfl rfl ?_
  refine ev_aload_n d_Law_law_342 rfl rfl ?_
  refine ev_iload d_Law_law_343 rfl ?_
  refine ev_iconst (v := 1) d_Law_law_345 (by decide) ?_
  refine ev_iadd d_Law_law_346 ?_
  refine ev_sld hSc (hI 1 (by decide)) d_Law_law_347 ?_
  refine ev_aload_n d_Law_law_348 rfl rfl ?_
  refine ev_callSH (ν := m_Law_addresses) (hs := hs_Law_addresses) [.ref X, .int _, .ref (X + 98)] [] (List.mem_cons_of_mem _ cw_Law_law_62.1.1) (List.mem_cons_of_mem _ cw_Law_law_62.1.2.1) (List.mem_cons_of_mem _ cw_Law_law_62.1.2.2) (List.mem_cons_of_mem _ cw_Law_law_62.2) (gi_W cw_Law_law_62.2) (n := 3) (by decide +kernel) (by decide) d_Law_law_349 rfl (Nat.le_of_ble_eq_true rfl) (y_Law_addresses hT hJ hE hG hS2 hy C O o _) (fun o1 h1 z => ?_)
  obtain ⟨v, rfl, z⟩ := z
  have h40 := H.2.2.1.2.2.1
  rcases z with ⟨rfl, hs, σ1, hK, ⟨C1, O1⟩, ⟨g, hg, hgv⟩, hm, b1⟩ | ⟨j, q, rfl, hj, hq, σ1, ⟨K1, K2⟩, ⟨C1, O1⟩, ⟨g, hg, hgv⟩, hm, b1⟩
  · have e1 := ov_of e hm
    have o1 : oC cJ X h1 := ⟨g, hg⟩
    show ev_E G m_Law_law 352 (lvQ b X i) [.int 1] _ _
    refine ev_istore d_Law_law_352 (by decide) ?_
    refine ev_aload_n d_Law_law_354 rfl rfl ?_
    refine ev_aload_n d_Law_law_355 rfl rfl ?_
    refine ev_iload d_Law_law_356 rfl ?_
    refine ev_iconst (v := 1) d_Law_law_358 (by decide) ?_
    refine ev_iadd d_Law_law_359 ?_
    refine ev_sld hSc (hI 1 (by decide)) d_Law_law_360 ?_
    refine ev_Vr (ci := 9) [.int _] [] ca_Law_law_67 d_Law_law_361 rfl ((ov_M e1)) rfl (Nat.le_of_ble_eq_true rfl) (at_ov e1 (q_addresses hT H _)) (fun v h1 z => ?_)
    rcases z with ⟨-, rfl, rfl, z2⟩ | ⟨j, q, P1, gs1, I1, R1, hj, hq, -⟩
    rotate_left
    · rw [hj] at hs; exact absurd hs (isF_yes h40 hq)
    have hth : (upd I 0 1) 0 = 1 := rfl
    have he1 : eS σ1 P Q := by rw [show σ1 = σ from hK.2]; exact he
    have ht1 : eAd X h1 σ1 P gs I := eAd_fr ht hK.1 (fun τ _ => by rw [show σ1 = σ from hK.2]) (fun _ _ => rfl) ht.2.2 rfl rfl
    refine ev_istore d_Law_law_364 (by decide) ?_
    refine ev_goto (tgt := 642) d_Law_law_366 (by decide) ?_
    obtain ⟨L1, e2⟩ := ref_LI5 (cZ := cZ) C1 O1 o1 hy he1 ht1 ⟨_, _, rfl, z2, rfl, rfl⟩
    exact ev_as (lvQ b X i) ⟨rfl, rfl, rfl, rfl, rfl, trivial⟩ (kk _ σ1 L1 ⟨by rw [e2.1]; exact b1.1, by rw [e2.2]; exact b1.2⟩)
  · have e1 := ov_of e hm
    have o1 : oC cJ X h1 := ⟨g, hg⟩
    show ev_E G m_Law_law 352 (lvQ b X i) [.int 0] _ _
    refine ev_istore d_Law_law_352 (by decide) ?_
    refine ev_aload_n d_Law_law_354 rfl rfl ?_
    refine ev_aload_n d_Law_law_355 rfl rfl ?_
    refine ev_iload d_Law_law_356 rfl ?_
    refine ev_iconst (v := 1) d_Law_law_358 (by decide) ?_
    refine ev_iadd d_Law_law_359 ?_
    refine ev_sld hSc (hI 1 (by decide)) d_Law_law_360 ?_
    refine ev_Vr (ci := 9) [.int _] [] ca_Law_law_67 d_Law_law_361 rfl ((ov_M e1)) rfl (Nat.le_of_ble_eq_true rfl) (at_ov e1 (q_addresses hT H _)) (fun v h1 z => ?_)
    rcases z with ⟨z4, -⟩ | ⟨j2, q2, P1, gs1, I1, R1, hj2, hq2, rfl, rfl, z2, z6, z3, z5⟩
    · rw [hj] at z4; exact absurd z4 (isF_yes h40 hq)
    have hb1 := (List.getElem?_eq_some_iff.mp hq).1
    have hb2 := (List.getElem?_eq_some_iff.mp hq2).1
    have ej : j2 = j := (nI_eq (by omega) (by omega)).mp (hj2.symm.trans hj)
    subst ej
    rw [hq] at hq2
    cases hq2
    have hth : I1 0 = 0 ∧ True := ⟨z5, trivial⟩
    have ht1 : eAd X h1 σ1 P1 gs1 I1 := ⟨⟨_, -1, K2, z6⟩, txH_same ht.2.1 (K1 66 (by decide)) (K1 68 (by decide)), by rw [z3 5 (by decide), z3 6 (by decide)]; exact ht.2.2⟩
    have he1 := eS_P (eS_out he K1 (by decide)) z3
    refine ev_istore d_Law_law_364 (by decide) ?_
    refine ev_goto (tgt := 642) d_Law_law_366 (by decide) ?_
    obtain ⟨L1, e2⟩ := ref_LI5 (cZ := cZ) C1 O1 o1 hy he1 ht1 ⟨_, _, rfl, z2, rfl, rfl⟩
    exact ev_as (lvQ b X i) ⟨rfl, rfl, rfl, rfl, rfl, trivial⟩ (kk _ σ1 L1 ⟨by rw [e2.1]; exact b1.1, by rw [e2.2]; exact b1.2⟩)
/-- identities -/
theorem q_8 (hNm : gl_nm G) (hT : (gl_t G)[0]? = some (cI, .int)) (hZ : (gl_t G)[1]? = some (cZ, .boolean)) (hJ : (gl_t G)[2]? = some (cJ, .long)) (hE : gl_ex G s170) (hG : gSg G sa sb) (hS2 : gS2 G sa sb) (hD : gDt G tm tz sm sz) (hSc : gl_sc G b L xs) (hI : ∀ k : Nat, k < 6 → vp_in (nI i + nI k) L) (L0 : LI5 cI cZ cJ X h σ) (kk : ∀ (h' : hp_T) (σ' : rwT), LI5 cI cZ cJ X h' σ' → bR h σ h' σ' → ev_E G m_Law_law 642 (lvQ b X i) [] h' Z) : ev_E G m_Law_law 369 (lvQ b X i) [] h Z := by
  obtain ⟨B, T, F, bd, P, gs, Q, hd, ch, I, R, ⟨C, O⟩, o, H, e, hy, he, ht⟩ := L0
  refine ev_aload_n d_Law_law_369 rfl rfl ?_
  refine ev_aload_n d_Law_law_370 rfl rfl ?_
  refine ev_iload d_Law_law_371 rfl ?_
  refine ev_iconst (v := 1) d_Law_law_373 (by decide) ?_
  refine ev_iadd d_Law_law_374 ?_
  refine ev_sld hSc (hI 1 (by decide)) d_Law_law_375 ?_
  refine ev_aload_n d_Law_law_376 rfl rfl ?_
  refine ev_callSH (ν := m_Law_identities) (hs := hs_Law_identities) [.ref X, .int _, .ref (X + 98)] [] (List.mem_cons_of_mem _ cw_Law_law_68.1.1) (List.mem_cons_of_mem _ cw_Law_law_68.1.2.1) (List.mem_cons_of_mem _ cw_Law_law_68.1.2.2) (List.mem_cons_of_mem _ cw_Law_law_68.2) (gi_W cw_Law_law_68.2) (n := 3) (by decide +kernel) (by decide) d_Law_law_377 rfl (Nat.le_of_ble_eq_true rfl) (y_Law_identities hNm hT hJ hE C O o _) (fun o1 h1 z => ?_)
  obtain ⟨v, rfl, z⟩ := z
  have h40 := H.2.2.1.2.2.1
  rcases z with ⟨rfl, hs, σ1, hK, ⟨C1, O1⟩, ⟨g, hg, hgv⟩, hm, b1, f18⟩ | ⟨j, q, rfl, hj, hq, σ1, ⟨K1, K2⟩, ⟨C1, O1⟩, ⟨g, hg, hgv⟩, hm, b1, f18⟩
  · have e1 := ov_of e hm
    have o1 : oC cJ X h1 := ⟨g, hg⟩
    show ev_E G m_Law_law 380 (lvQ b X i) [.int 1] _ _
    refine ev_istore d_Law_law_380 (by decide) ?_
    refine ev_aload_n d_Law_law_382 rfl rfl ?_
    refine ev_aload_n d_Law_law_383 rfl rfl ?_
    refine ev_iload d_Law_law_384 rfl ?_
    refine ev_iconst (v := 1) d_Law_law_386 (by decide) ?_
    refine ev_iadd d_Law_law_387 ?_
    refine ev_sld hSc (hI 1 (by decide)) d_Law_law_388 ?_
    refine ev_Vr (ci := 9) [.int _] [] ca_Law_law_70 d_Law_law_389 rfl ((ov_M e1)) rfl (Nat.le_of_ble_eq_true rfl) (at_ov e1 (r_identities hT H _)) (fun v h1 z => ?_)
    obtain ⟨w, P1, I1, R1, rfl, rfl, z2, i24, i25, z3⟩ := z
    have hth : I1 0 = 1 ∧ P1 = P := by
      rcases z3 with ⟨-, z4⟩ | ⟨j, q, hj, hq, -⟩
      · exact z4
      · rw [hj] at hs; exact absurd hs (isF_yes h40 hq)
    have he1 : eS σ1 P1 Q := by rw [show σ1 = σ from hK, hth.2]; exact he
    have ht1 : eAd X h1 σ1 P1 gs I := by rw [hth.2]; exact eAd_fr ht f18 (fun τ _ => by rw [show σ1 = σ from hK]) (fun _ _ => rfl) ht.2.2 rfl rfl
    replace hth := hth.1
    refine ev_istore d_Law_law_392 (by decide) ?_
    refine ev_goto (tgt := 642) d_Law_law_394 (by decide) ?_
    obtain ⟨L1, e2⟩ := ref_LI5 (cZ := cZ) C1 O1 o1 hy he1 ht1 ⟨_, _, rfl, z2, i24, i25⟩
    exact ev_as (lvQ b X i) ⟨rfl, rfl, rfl, rfl, rfl, trivial⟩ (kk _ σ1 L1 ⟨by rw [e2.1]; exact b1.1, by rw [e2.2]; exact b1.2⟩)
  · have e1 := ov_of e hm
    have o1 : oC cJ X h1 := ⟨g, hg⟩
    show ev_E G m_Law_law 380 (lvQ b X i) [.int 0] _ _
    refine ev_istore d_Law_law_380 (by decide) ?_
    refine ev_aload_n d_Law_law_382 rfl rfl ?_
    refine ev_aload_n d_Law_law_383 rfl rfl ?_
    refine ev_iload d_Law_law_384 rfl ?_
    refine ev_iconst (v := 1) d_Law_law_386 (by decide) ?_
    refine ev_iadd d_Law_law_387 ?_
    refine ev_sld hSc (hI 1 (by decide)) d_Law_law_388 ?_
    refine ev_Vr (ci := 9) [.int _] [] ca_Law_law_70 d_Law_law_389 rfl ((ov_M e1)) rfl (Nat.le_of_ble_eq_true rfl) (at_ov e1 (r_identities hT H _)) (fun v h1 z => ?_)
    obtain ⟨w, P1, I1, R1, rfl, rfl, z2, i24, i25, z3⟩ := z
    have hth : I1 0 = 0 ∧ P1 = va_up P 4 (idS q.2.length q.2) ∧ w = nI (idS q.2.length q.2).length := by
      rcases z3 with ⟨z4, -, -⟩ | ⟨j2, q2, hj2, hq2, z4⟩
      · rw [hj] at z4; exact absurd z4 (isF_yes h40 hq)
      · have hb1 := (List.getElem?_eq_some_iff.mp hq).1
        have hb2 := (List.getElem?_eq_some_iff.mp hq2).1
        have ej : j2 = j := (nI_eq (by omega) (by omega)).mp (hj2.symm.trans hj)
        subst ej
        rw [hq] at hq2
        cases hq2
        exact z4
    obtain ⟨ht0, rfl, ht1⟩ := hth
    have hth : I1 0 = 0 ∧ w = nI (idS q.2.length q.2).length := ⟨ht0, ht1⟩
    have he1 := eS_ids he K1 K2
    have ht1 : eAd X h1 σ1 (va_up P 4 (idS q.2.length q.2)) gs I := eAd_fr ht f18 (fun τ hτ => K1 τ (by revert τ; decide)) (fun w hw => up_ne (by omega)) (by rw [up_ne (by decide), up_ne (by decide)]; exact ht.2.2) rfl rfl
    refine ev_istore d_Law_law_392 (by decide) ?_
    refine ev_goto (tgt := 642) d_Law_law_394 (by decide) ?_
    obtain ⟨L1, e2⟩ := ref_LI5 (cZ := cZ) C1 O1 o1 hy he1 ht1 ⟨_, _, rfl, z2, i24, i25⟩
    exact ev_as (lvQ b X i) ⟨rfl, rfl, rfl, rfl, rfl, trivial⟩ (kk _ σ1 L1 ⟨by rw [e2.1]; exact b1.1, by rw [e2.2]; exact b1.2⟩)
/-- date -/
theorem q_9 (hNm : gl_nm G) (hT : (gl_t G)[0]? = some (cI, .int)) (hZ : (gl_t G)[1]? = some (cZ, .boolean)) (hJ : (gl_t G)[2]? = some (cJ, .long)) (hE : gl_ex G s170) (hG : gSg G sa sb) (hS2 : gS2 G sa sb) (hD : gDt G tm tz sm sz) (hSc : gl_sc G b L xs) (hI : ∀ k : Nat, k < 6 → vp_in (nI i + nI k) L) (L0 : LI5 cI cZ cJ X h σ) (kk : ∀ (h' : hp_T) (σ' : rwT), LI5 cI cZ cJ X h' σ' → bR h σ h' σ' → ev_E G m_Law_law 642 (lvQ b X i) [] h' Z) : ev_E G m_Law_law 397 (lvQ b X i) [] h Z := by
  obtain ⟨B, T, F, bd, P, gs, Q, hd, ch, I, R, ⟨C, O⟩, o, H, e, hy, he, ht⟩ := L0
  refine ev_aload_n d_Law_law_397 rfl rfl ?_
  refine ev_aload_n d_Law_law_398 rfl rfl ?_
  refine ev_iload d_Law_law_399 rfl ?_
  refine ev_iconst (v := 1) d_Law_law_401 (by decide) ?_
  refine ev_iadd d_Law_law_402 ?_
  refine ev_sld hSc (hI 1 (by decide)) d_Law_law_403 ?_
  refine ev_aload_n d_Law_law_404 rfl rfl ?_
  refine ev_callSH (ν := m_Law_date) (hs := hs_Law_date) [.ref X, .int _, .ref (X + 98)] [] (List.mem_cons_of_mem _ cw_Law_law_71.1.1) (List.mem_cons_of_mem _ cw_Law_law_71.1.2.1) (List.mem_cons_of_mem _ cw_Law_law_71.1.2.2) (List.mem_cons_of_mem _ cw_Law_law_71.2) (gi_W cw_Law_law_71.2) (n := 3) (by decide +kernel) (by decide) d_Law_law_405 rfl (Nat.le_of_ble_eq_true rfl) (y_Law_date hNm hT hJ hE hG hS2 hD hy C O o _) (fun o1 h1 z => ?_)
  obtain ⟨v, rfl, z⟩ := z
  have h40 := H.2.2.1.2.2.1
  rcases z with ⟨rfl, hs, σ1, hK, ⟨C1, O1⟩, ⟨g, hg, hgv⟩, hm, b1, f18⟩ | ⟨j, q, rfl, hj, hq, σ1, K1, ⟨C1, O1⟩, ⟨g, hg, hgv⟩, hm, b1, f18⟩
  · have e1 := ov_of e hm
    have o1 : oC cJ X h1 := ⟨g, hg⟩
    show ev_E G m_Law_law 408 (lvQ b X i) [.int 1] _ _
    refine ev_istore d_Law_law_408 (by decide) ?_
    refine ev_aload_n d_Law_law_410 rfl rfl ?_
    refine ev_aload_n d_Law_law_411 rfl rfl ?_
    refine ev_iload d_Law_law_412 rfl ?_
    refine ev_iconst (v := 1) d_Law_law_414 (by decide) ?_
    refine ev_iadd d_Law_law_415 ?_
    refine ev_sld hSc (hI 1 (by decide)) d_Law_law_416 ?_
    refine ev_Vr (ci := 9) [.int _] [] ca_Law_law_73 d_Law_law_417 rfl ((ov_M e1)) rfl (Nat.le_of_ble_eq_true rfl) (at_ov e1 (q_date hT H _)) (fun v h1 z => ?_)
    rcases z with ⟨-, rfl, rfl, z2⟩ | ⟨j, q, I1, R1, hj, hq, -⟩
    rotate_left
    · rw [hj] at hs; exact absurd hs (isF_yes h40 hq)
    have hth : (upd I 0 1) 0 = 1 := rfl
    have he1 : eS σ1 P Q := by rw [show σ1 = σ from hK]; exact he
    have ht1 : eAd X h1 σ1 P gs I := eAd_fr ht f18 (fun τ _ => by rw [show σ1 = σ from hK]) (fun _ _ => rfl) ht.2.2 rfl rfl
    refine ev_lstore d_Law_law_420 (by decide) ?_
    refine ev_goto (tgt := 642) d_Law_law_422 (by decide) ?_
    obtain ⟨L1, e2⟩ := ref_LI5 (cZ := cZ) C1 O1 o1 hy he1 ht1 ⟨_, _, rfl, z2, rfl, rfl⟩
    exact ev_as (lvQ b X i) ⟨rfl, rfl, rfl, rfl, rfl, trivial⟩ (kk _ σ1 L1 ⟨by rw [e2.1]; exact b1.1, by rw [e2.2]; exact b1.2⟩)
  · have e1 := ov_of e hm
    have o1 : oC cJ X h1 := ⟨g, hg⟩
    show ev_E G m_Law_law 408 (lvQ b X i) [.int 0] _ _
    refine ev_istore d_Law_law_408 (by decide) ?_
    refine ev_aload_n d_Law_law_410 rfl rfl ?_
    refine ev_aload_n d_Law_law_411 rfl rfl ?_
    refine ev_iload d_Law_law_412 rfl ?_
    refine ev_iconst (v := 1) d_Law_law_414 (by decide) ?_
    refine ev_iadd d_Law_law_415 ?_
    refine ev_sld hSc (hI 1 (by decide)) d_Law_law_416 ?_
    refine ev_Vr (ci := 9) [.int _] [] ca_Law_law_73 d_Law_law_417 rfl ((ov_M e1)) rfl (Nat.le_of_ble_eq_true rfl) (at_ov e1 (q_date hT H _)) (fun v h1 z => ?_)
    rcases z with ⟨z4, -⟩ | ⟨j2, q2, I1, R1, hj2, hq2, rfl, rfl, z2, z5, i24, i25⟩
    · rw [hj] at z4; exact absurd z4 (isF_yes h40 hq)
    have hb1 := (List.getElem?_eq_some_iff.mp hq).1
    have hb2 := (List.getElem?_eq_some_iff.mp hq2).1
    have ej : j2 = j := (nI_eq (by omega) (by omega)).mp (hj2.symm.trans hj)
    subst ej
    rw [hq] at hq2
    cases hq2
    have hth : I1 0 = 0 ∧ True := ⟨z5, trivial⟩
    have ht1 : eAd X h1 σ1 P gs I := eAd_fr ht f18 (fun τ hτ => K1 τ (by revert τ; decide)) (fun _ _ => rfl) ht.2.2 rfl rfl
    have he1 := eS_out he K1 (by decide)
    refine ev_lstore d_Law_law_420 (by decide) ?_
    refine ev_goto (tgt := 642) d_Law_law_422 (by decide) ?_
    obtain ⟨L1, e2⟩ := ref_LI5 (cZ := cZ) C1 O1 o1 hy he1 ht1 ⟨_, _, rfl, z2, i24, i25⟩
    exact ev_as (lvQ b X i) ⟨rfl, rfl, rfl, rfl, rfl, trivial⟩ (kk _ σ1 L1 ⟨by rw [e2.1]; exact b1.1, by rw [e2.2]; exact b1.2⟩)
/-- type -/
theorem q_10 (hNm : gl_nm G) (hT : (gl_t G)[0]? = some (cI, .int)) (hZ : (gl_t G)[1]? = some (cZ, .boolean)) (hJ : (gl_t G)[2]? = some (cJ, .long)) (hE : gl_ex G s170) (hG : gSg G sa sb) (hS2 : gS2 G sa sb) (hD : gDt G tm tz sm sz) (hSc : gl_sc G b L xs) (hI : ∀ k : Nat, k < 6 → vp_in (nI i + nI k) L) (L0 : LI5 cI cZ cJ X h σ) (kk : ∀ (h' : hp_T) (σ' : rwT), LI5 cI cZ cJ X h' σ' → bR h σ h' σ' → ev_E G m_Law_law 642 (lvQ b X i) [] h' Z) : ev_E G m_Law_law 425 (lvQ b X i) [] h Z := by
  obtain ⟨B, T, F, bd, P, gs, Q, hd, ch, I, R, ⟨C, O⟩, o, H, e, hy, he, ht⟩ := L0
  refine ev_aload_n d_Law_law_425 rfl rfl ?_
  refine ev_aload_n d_Law_law_426 rfl rfl ?_
  refine ev_iload d_Law_law_427 rfl ?_
  refine ev_iconst (v := 1) d_Law_law_429 (by decide) ?_
  refine ev_iadd d_Law_law_430 ?_
  refine ev_sld hSc (hI 1 (by decide)) d_Law_law_431 ?_
  refine ev_aload_n d_Law_law_432 rfl rfl ?_
  refine ev_callSH (ν := m_Law_type) (hs := hs_Law_type) [.ref X, .int _, .ref (X + 98)] [] (List.mem_cons_of_mem _ cw_Law_law_74.1.1) (List.mem_cons_of_mem _ cw_Law_law_74.1.2.1) (List.mem_cons_of_mem _ cw_Law_law_74.1.2.2) (List.mem_cons_of_mem _ cw_Law_law_74.2) (gi_W cw_Law_law_74.2) (n := 3) (by decide +kernel) (by decide) d_Law_law_433 rfl (Nat.le_of_ble_eq_true rfl) (y_Law_type hNm hT hJ hE hG hS2 hy C O o _) (fun o1 h1 z => ?_)
  obtain ⟨v, rfl, z⟩ := z
  have h40 := H.2.2.1.2.2.1
  rcases z with ⟨rfl, hs, σ1, hK, ⟨C1, O1⟩, ⟨g, hg, hgv⟩, hm, b1, f18⟩ | ⟨j, q, rfl, hj, hq, σ1, ⟨K1, K2⟩, ⟨C1, O1⟩, ⟨g, hg, hgv⟩, hm, b1, f18⟩
  · have e1 := ov_of e hm
    have o1 : oC cJ X h1 := ⟨g, hg⟩
    show ev_E G m_Law_law 436 (lvQ b X i) [.int 1] _ _
    refine ev_istore d_Law_law_436 (by decide) ?_
    refine ev_aload_n d_Law_law_438 rfl rfl ?_
    refine ev_aload_n d_Law_law_439 rfl rfl ?_
    refine ev_iload d_Law_law_440 rfl ?_
    refine ev_iconst (v := 1) d_Law_law_442 (by decide) ?_
    refine ev_iadd d_Law_law_443 ?_
    refine ev_sld hSc (hI 1 (by decide)) d_Law_law_444 ?_
    refine ev_Vr (ci := 9) [.int _] [] ca_Law_law_76 d_Law_law_445 rfl ((ov_M e1)) rfl (Nat.le_of_ble_eq_true rfl) (at_ov e1 (r_type hT hZ H _)) (fun v h1 z => ?_)
    rcases z with ⟨-, rfl, rfl, z2⟩ | ⟨j, q, I1, R1, hj, hq, -⟩
    rotate_left
    · rw [hj] at hs; exact absurd hs (isF_yes h40 hq)
    have hth : (upd I 0 1) 0 = 1 := rfl
    have he1 : eS σ1 P Q := by rw [show σ1 = σ from hK]; exact he
    have ht1 : eAd X h1 σ1 P gs I := eAd_fr ht f18 (fun τ _ => by rw [show σ1 = σ from hK]) (fun _ _ => rfl) ht.2.2 rfl rfl
    refine ev_istore d_Law_law_448 (by decide) ?_
    refine ev_goto (tgt := 642) d_Law_law_450 (by decide) ?_
    obtain ⟨L1, e2⟩ := ref_LI5 (cZ := cZ) C1 O1 o1 hy he1 ht1 ⟨_, _, rfl, z2, rfl, rfl⟩
    exact ev_as (lvQ b X i) ⟨rfl, rfl, rfl, rfl, rfl, trivial⟩ (kk _ σ1 L1 ⟨by rw [e2.1]; exact b1.1, by rw [e2.2]; exact b1.2⟩)
  · have e1 := ov_of e hm
    have o1 : oC cJ X h1 := ⟨g, hg⟩
    show ev_E G m_Law_law 436 (lvQ b X i) [.int 0] _ _
    refine ev_istore d_Law_law_436 (by decide) ?_
    refine ev_aload_n d_Law_law_438 rfl rfl ?_
    refine ev_aload_n d_Law_law_439 rfl rfl ?_
    refine ev_iload d_Law_law_440 rfl ?_
    refine ev_iconst (v := 1) d_Law_law_442 (by decide) ?_
    refine ev_iadd d_Law_law_443 ?_
    refine ev_sld hSc (hI 1 (by decide)) d_Law_law_444 ?_
    refine ev_Vr (ci := 9) [.int _] [] ca_Law_law_76 d_Law_law_445 rfl ((ov_M e1)) rfl (Nat.le_of_ble_eq_true rfl) (at_ov e1 (r_type hT hZ H _)) (fun v h1 z => ?_)
    rcases z with ⟨z4, -⟩ | ⟨j2, q2, I1, R1, hj2, hq2, rfl, rfl, z2, z5, i24, i25⟩
    · rw [hj] at z4; exact absurd z4 (isF_yes h40 hq)
    have hb1 := (List.getElem?_eq_some_iff.mp hq).1
    have hb2 := (List.getElem?_eq_some_iff.mp hq2).1
    have ej : j2 = j := (nI_eq (by omega) (by omega)).mp (hj2.symm.trans hj)
    subst ej
    rw [hq] at hq2
    cases hq2
    have hth : I1 0 = 0 ∧ True := ⟨z5, trivial⟩
    have ht1 : eAd X h1 σ1 (tyPt P (tyA (wcut true q.2.length q.2))) gs I := eAd_fr ht f18 (fun τ hτ => K1 τ (by revert τ; decide)) (fun w hw => tyPt_lt hw) tyPt_56 rfl rfl
    have he1 := eS_typ he K1 K2.1 K2.2
    refine ev_istore d_Law_law_448 (by decide) ?_
    refine ev_goto (tgt := 642) d_Law_law_450 (by decide) ?_
    obtain ⟨L1, e2⟩ := ref_LI5 (cZ := cZ) C1 O1 o1 hy he1 ht1 ⟨_, _, rfl, z2, i24, i25⟩
    exact ev_as (lvQ b X i) ⟨rfl, rfl, rfl, rfl, rfl, trivial⟩ (kk _ σ1 L1 ⟨by rw [e2.1]; exact b1.1, by rw [e2.2]; exact b1.2⟩)
/-- group -/
theorem q_11 (hNm : gl_nm G) (hT : (gl_t G)[0]? = some (cI, .int)) (hZ : (gl_t G)[1]? = some (cZ, .boolean)) (hJ : (gl_t G)[2]? = some (cJ, .long)) (hE : gl_ex G s170) (hG : gSg G sa sb) (hS2 : gS2 G sa sb) (hD : gDt G tm tz sm sz) (hSc : gl_sc G b L xs) (hI : ∀ k : Nat, k < 6 → vp_in (nI i + nI k) L) (L0 : LI5 cI cZ cJ X h σ) (kk : ∀ (h' : hp_T) (σ' : rwT), LI5 cI cZ cJ X h' σ' → bR h σ h' σ' → ev_E G m_Law_law 642 (lvQ b X i) [] h' Z) : ev_E G m_Law_law 453 (lvQ b X i) [] h Z := by
  obtain ⟨B, T, F, bd, P, gs, Q, hd, ch, I, R, ⟨C, O⟩, o, H, e, hy, he, ht⟩ := L0
  refine ev_aload_n d_Law_law_453 rfl rfl ?_
  refine ev_aload_n d_Law_law_454 rfl rfl ?_
  refine ev_iload d_Law_law_455 rfl ?_
  refine ev_iconst (v := 1) d_Law_law_457 (by decide) ?_
  refine ev_iadd d_Law_law_458 ?_
  refine ev_sld hSc (hI 1 (by decide)) d_Law_law_459 ?_
  refine ev_aload_n d_Law_law_460 rfl rfl ?_
  refine ev_iload d_Law_law_461 rfl ?_
  refine ev_iconst (v := 2) d_Law_law_463 (by decide) ?_
  refine ev_iadd d_Law_law_464 ?_
  refine ev_sld hSc (hI 2 (by decide)) d_Law_law_465 ?_
  refine ev_Vv (ci := 0) [.int _, .int _] [] ca_Law_law_77 d_Law_law_466 rfl (C.2.2.2.1) rfl (Nat.le_of_ble_eq_true rfl) (z_group hT C.1 O C.2.2.2.1 ht _ _) ?_
  refine ev_pop d_Law_law_469 rfl ?_
  refine ev_aload_n d_Law_law_470 rfl rfl ?_
  refine ev_aload_n d_Law_law_471 rfl rfl ?_
  refine ev_iload d_Law_law_472 rfl ?_
  refine ev_iconst (v := 1) d_Law_law_474 (by decide) ?_
  refine ev_iadd d_Law_law_475 ?_
  refine ev_sld hSc (hI 1 (by decide)) d_Law_law_476 ?_
  refine ev_aload_n d_Law_law_477 rfl rfl ?_
  refine ev_iload d_Law_law_478 rfl ?_
  refine ev_iconst (v := 2) d_Law_law_480 (by decide) ?_
  refine ev_iadd d_Law_law_481 ?_
  refine ev_sld hSc (hI 2 (by decide)) d_Law_law_482 ?_
  refine ev_Vr (ci := 9) [.int _, .int _] [] ca_Law_law_80 d_Law_law_483 rfl ((ov_M e)) rfl (Nat.le_of_ble_eq_true rfl) (at_ov e (r_group hT H _ _)) (fun v h1 z => ?_)
  obtain ⟨rfl, z1, z2⟩ := z
  have z : mH5 cI cZ _ (X + 70) I (mI B T F bd P gs Q hd ch) _ := ⟨_, _, z1, z2, rfl, rfl⟩
  obtain ⟨L1, e2⟩ := ref_LI5 C O o hy he ht z
  refine ev_pop d_Law_law_486 rfl ?_
  refine ev_goto (tgt := 642) d_Law_law_487 (by decide) ?_
  exact kk _ σ L1 (bR_rf e2)
/-- length -/
theorem q_12 (hNm : gl_nm G) (hT : (gl_t G)[0]? = some (cI, .int)) (hZ : (gl_t G)[1]? = some (cZ, .boolean)) (hJ : (gl_t G)[2]? = some (cJ, .long)) (hE : gl_ex G s170) (hG : gSg G sa sb) (hS2 : gS2 G sa sb) (hD : gDt G tm tz sm sz) (hSc : gl_sc G b L xs) (hI : ∀ k : Nat, k < 6 → vp_in (nI i + nI k) L) (L0 : LI5 cI cZ cJ X h σ) (kk : ∀ (h' : hp_T) (σ' : rwT), LI5 cI cZ cJ X h' σ' → bR h σ h' σ' → ev_E G m_Law_law 642 (lvQ b X i) [] h' Z) : ev_E G m_Law_law 490 (lvQ b X i) [] h Z := by
  obtain ⟨B, T, F, bd, P, gs, Q, hd, ch, I, R, ⟨C, O⟩, o, H, e, hy, he, ht⟩ := L0
  refine ev_aload_n d_Law_law_490 rfl rfl ?_
  refine ev_aload_n d_Law_law_491 rfl rfl ?_
  refine ev_iload d_Law_law_492 rfl ?_
  refine ev_iconst (v := 1) d_Law_law_494 (by decide) ?_
  refine ev_iadd d_Law_law_495 ?_
  refine ev_sld hSc (hI 1 (by decide)) d_Law_law_496 ?_
  refine ev_aload_n d_Law_law_497 rfl rfl ?_
  refine ev_iload d_Law_law_498 rfl ?_
  refine ev_iconst (v := 2) d_Law_law_500 (by decide) ?_
  refine ev_iadd d_Law_law_501 ?_
  refine ev_sld hSc (hI 2 (by decide)) d_Law_law_502 ?_
  refine ev_Vv (ci := 0) [.int _, .int _] [] ca_Law_law_81 d_Law_law_503 rfl (C.2.2.2.1) rfl (Nat.le_of_ble_eq_true rfl) (y_length hT C.1 O C.2.2.2.1 he ht _ _) ?_
  refine ev_pop d_Law_law_506 rfl ?_
  refine ev_aload_n d_Law_law_507 rfl rfl ?_
  refine ev_aload_n d_Law_law_508 rfl rfl ?_
  refine ev_iload d_Law_law_509 rfl ?_
  refine ev_iconst (v := 1) d_Law_law_511 (by decide) ?_
  refine ev_iadd d_Law_law_512 ?_
  refine ev_sld hSc (hI 1 (by decide)) d_Law_law_513 ?_
  refine ev_aload_n d_Law_law_514 rfl rfl ?_
  refine ev_iload d_Law_law_515 rfl ?_
  refine ev_iconst (v := 2) d_Law_law_517 (by decide) ?_
  refine ev_iadd d_Law_law_518 ?_
  refine ev_sld hSc (hI 2 (by decide)) d_Law_law_519 ?_
  refine ev_Vr (ci := 9) [.int _, .int _] [] ca_Law_law_84 d_Law_law_520 rfl ((ov_M e)) rfl (Nat.le_of_ble_eq_true rfl) (at_ov e (v_length hT H _ _)) (fun v h1 z => ?_)
  obtain ⟨rfl, z⟩ := z
  obtain ⟨L1, e2⟩ := ref_LI5 C O o hy he ht z
  refine ev_pop d_Law_law_523 rfl ?_
  refine ev_goto (tgt := 642) d_Law_law_524 (by decide) ?_
  exact kk _ σ L1 (bR_rf e2)
/-- at, compared -/
theorem q_13 (hNm : gl_nm G) (hT : (gl_t G)[0]? = some (cI, .int)) (hZ : (gl_t G)[1]? = some (cZ, .boolean)) (hJ : (gl_t G)[2]? = some (cJ, .long)) (hE : gl_ex G s170) (hG : gSg G sa sb) (hS2 : gS2 G sa sb) (hD : gDt G tm tz sm sz) (hSc : gl_sc G b L xs) (hI : ∀ k : Nat, k < 6 → vp_in (nI i + nI k) L) (L0 : LI5 cI cZ cJ X h σ) (kk : ∀ (h' : hp_T) (σ' : rwT), LI5 cI cZ cJ X h' σ' → bR h σ h' σ' → ev_E G m_Law_law 642 (lvQ b X i) [] h' Z) : ev_E G m_Law_law 527 (lvQ b X i) [] h Z := by
  obtain ⟨B, T, F, bd, P, gs, Q, hd, ch, I, R, ⟨C, O⟩, o, H, e, hy, he, ht⟩ := L0
  refine ev_aload_n d_Law_law_527 rfl rfl ?_
  refine ev_aload_n d_Law_law_528 rfl rfl ?_
  refine ev_iload d_Law_law_529 rfl ?_
  refine ev_iconst (v := 1) d_Law_law_531 (by decide) ?_
  refine ev_iadd d_Law_law_532 ?_
  refine ev_sld hSc (hI 1 (by decide)) d_Law_law_533 ?_
  refine ev_aload_n d_Law_law_534 rfl rfl ?_
  refine ev_iload d_Law_law_535 rfl ?_
  refine ev_iconst (v := 2) d_Law_law_537 (by decide) ?_
  refine ev_iadd d_Law_law_538 ?_
  refine ev_sld hSc (hI 2 (by decide)) d_Law_law_539 ?_
  refine ev_aload_n d_Law_law_540 rfl rfl ?_
  refine ev_iload d_Law_law_541 rfl ?_
  refine ev_iconst (v := 3) d_Law_law_543 (by decide) ?_
  refine ev_iadd d_Law_law_544 ?_
  refine ev_sld hSc (hI 3 (by decide)) d_Law_law_545 ?_
  refine ev_Vv (ci := 0) [.int _, .int _, .int _] [] ca_Law_law_85 d_Law_law_546 rfl (C.2.2.2.1) rfl (Nat.le_of_ble_eq_true rfl) (y_at hT C.1 O C.2.2.2.1 he ht _ _ _) ?_
  refine ev_aload_n d_Law_law_549 rfl rfl ?_
  refine ev_aload_n d_Law_law_550 rfl rfl ?_
  refine ev_iload d_Law_law_551 rfl ?_
  refine ev_iconst (v := 1) d_Law_law_553 (by decide) ?_
  refine ev_iadd d_Law_law_554 ?_
  refine ev_sld hSc (hI 1 (by decide)) d_Law_law_555 ?_
  refine ev_aload_n d_Law_law_556 rfl rfl ?_
  refine ev_iload d_Law_law_557 rfl ?_
  refine ev_iconst (v := 2) d_Law_law_559 (by decide) ?_
  refine ev_iadd d_Law_law_560 ?_
  refine ev_sld hSc (hI 2 (by decide)) d_Law_law_561 ?_
  refine ev_aload_n d_Law_law_562 rfl rfl ?_
  refine ev_iload d_Law_law_563 rfl ?_
  refine ev_iconst (v := 3) d_Law_law_565 (by decide) ?_
  refine ev_iadd d_Law_law_566 ?_
  refine ev_sld hSc (hI 3 (by decide)) d_Law_law_567 ?_
  refine ev_Vr (ci := 9) [.int _, .int _, .int _] [.int _] ca_Law_law_88 d_Law_law_568 rfl ((ov_M e)) rfl (Nat.le_of_ble_eq_true rfl) (at_ov e (v_at hT H _ _ _)) (fun v h1 z => ?_)
  obtain ⟨rfl, z⟩ := z
  obtain ⟨L1, e2⟩ := ref_LI5 C O o hy he ht z
  refine ev_icmp_eq (tgt := 642) d_Law_law_571 (by decide) (fun _ => ?_) (fun z => absurd rfl z)
  exact kk _ σ L1 (bR_rf e2)
/-- parameter -/
theorem q_14 (hNm : gl_nm G) (hT : (gl_t G)[0]? = some (cI, .int)) (hZ : (gl_t G)[1]? = some (cZ, .boolean)) (hJ : (gl_t G)[2]? = some (cJ, .long)) (hE : gl_ex G s170) (hG : gSg G sa sb) (hS2 : gS2 G sa sb) (hD : gDt G tm tz sm sz) (hSc : gl_sc G b L xs) (hI : ∀ k : Nat, k < 6 → vp_in (nI i + nI k) L) (L0 : LI5 cI cZ cJ X h σ) (kk : ∀ (h' : hp_T) (σ' : rwT), LI5 cI cZ cJ X h' σ' → bR h σ h' σ' → ev_E G m_Law_law 642 (lvQ b X i) [] h' Z) : ev_E G m_Law_law 576 (lvQ b X i) [] h Z := by
  obtain ⟨B, T, F, bd, P, gs, Q, hd, ch, I, R, ⟨C, O⟩, o, H, e, hy, he, ht⟩ := L0
  refine ev_aload_n d_Law_law_576 rfl rfl ?_
  refine ev_Vr (ci := 0) [] [] ca_Law_law_89 d_Law_law_577 rfl (C.2.2.2.1) rfl (Nat.le_of_ble_eq_true rfl) (y_parameter hNm hT C O H.2.2.2.2.2.1.2.2.1 he.1) (fun v h1 z => ?_)
  obtain ⟨rfl, z⟩ := z
  obtain ⟨σ1, ⟨C1, O1⟩, k1, f1⟩ := z
  have hm : ∀ q, X + 70 ≤ q → q ≤ X + 98 → h1.2.2 q = h.2.2 q := fun q q1 q2 => kR_mid C.1 k1 mQ_mid q1 q2
  have o1 := mid_oC o hm
  have e1 := mid_ov e hm
  refine ev_pop d_Law_law_580 rfl ?_
  refine ev_aload_n d_Law_law_581 rfl rfl ?_
  refine ev_Vr (ci := 9) [] [] ca_Law_law_92 d_Law_law_582 rfl ((ov_M e1)) rfl (Nat.le_of_ble_eq_true rfl) (at_ov e1 (v_parameter hT hZ H)) (fun v h1 z => ?_)
  obtain ⟨rfl, z⟩ := z
  obtain ⟨L1, e2⟩ := ref_LI5 C1 O1 o1 ⟨hy.1, fun x hx => (by cases hx), hy.2.2⟩ (eS_out he f1 (by decide)) (eAd_cl ht (kR_18 C.1 k1 O) f1 (by decide)) z
  refine ev_pop d_Law_law_585 rfl ?_
  refine ev_goto (tgt := 642) d_Law_law_586 (by decide) ?_
  exact kk _ σ1 L1 (bR_of k1 e2)
/-- parameterByte -/
theorem q_15 (hNm : gl_nm G) (hT : (gl_t G)[0]? = some (cI, .int)) (hZ : (gl_t G)[1]? = some (cZ, .boolean)) (hJ : (gl_t G)[2]? = some (cJ, .long)) (hE : gl_ex G s170) (hG : gSg G sa sb) (hS2 : gS2 G sa sb) (hD : gDt G tm tz sm sz) (hSc : gl_sc G b L xs) (hI : ∀ k : Nat, k < 6 → vp_in (nI i + nI k) L) (L0 : LI5 cI cZ cJ X h σ) (kk : ∀ (h' : hp_T) (σ' : rwT), LI5 cI cZ cJ X h' σ' → bR h σ h' σ' → ev_E G m_Law_law 642 (lvQ b X i) [] h' Z) : ev_E G m_Law_law 589 (lvQ b X i) [] h Z := by
  obtain ⟨B, T, F, bd, P, gs, Q, hd, ch, I, R, ⟨C, O⟩, o, H, e, hy, he, ht⟩ := L0
  have on : ∀ (x : Int32) (t : Bool), ev_E G m_Law_law 604 (lvQ b X i) [.int (bI t), .ref X] h Z := by
    intro x t
    refine ev_aload_n d_Law_law_604 rfl rfl ?_
    refine ev_iload d_Law_law_605 rfl ?_
    refine ev_iconst (v := 2) d_Law_law_607 (by decide) ?_
    refine ev_iadd d_Law_law_608 ?_
    refine ev_sld hSc (hI 2 (by decide)) d_Law_law_609 ?_
    refine ev_Vr (ci := 0) [.int (bI t), .int _] [] ca_Law_law_93 d_Law_law_610 rfl (C.2.2.2.1) rfl (Nat.le_of_ble_eq_true rfl) (w_parameterByte hT C.1 O C.2.2.2.1 (bI t) _) (fun v h1 z => ?_)
    obtain ⟨⟨y, rfl⟩, z⟩ := z
    obtain rfl := z.symm
    have on2 : ∀ t : Bool, ev_E G m_Law_law 629 (lvQ b X i) [.int (bI t), .ref (X + 70)] h Z := by
      intro t
      refine ev_aload_n d_Law_law_629 rfl rfl ?_
      refine ev_iload d_Law_law_630 rfl ?_
      refine ev_iconst (v := 2) d_Law_law_632 (by decide) ?_
      refine ev_iadd d_Law_law_633 ?_
      refine ev_sld hSc (hI 2 (by decide)) d_Law_law_634 ?_
      refine ev_Vr (ci := 9) [.int (bI t), .int _] [] ca_Law_law_97 d_Law_law_635 rfl ((ov_M e)) rfl (Nat.le_of_ble_eq_true rfl) (at_ov e (v_parameterByte hT H t _)) (fun v h1 z => ?_)
      obtain ⟨rfl, z⟩ := z
      obtain ⟨L1, e2⟩ := ref_LI5 C O o hy he ht z
      refine ev_pop d_Law_law_638 rfl ?_
      refine ev_goto (tgt := 642) d_Law_law_639 (by decide) ?_
      exact kk _ σ L1 (bR_rf e2)
    refine ev_pop d_Law_law_613 rfl ?_
    refine ev_aload_n d_Law_law_614 rfl rfl ?_
    refine ev_aload_n d_Law_law_615 rfl rfl ?_
    refine ev_iload d_Law_law_616 rfl ?_
    refine ev_iconst (v := 1) d_Law_law_618 (by decide) ?_
    refine ev_iadd d_Law_law_619 ?_
    refine ev_sld hSc (hI 1 (by decide)) d_Law_law_620 ?_
    refine ev_if_eq (tgt := 628) d_Law_law_621 (by decide) (fun c_621 => ?_) (fun c_621 => ?_)
    · refine ev_iconst (v := 0) d_Law_law_628 (by decide) ?_
      exact on2 false
    · refine ev_iconst (v := 1) d_Law_law_624 (by decide) ?_
      refine ev_goto (tgt := 629) d_Law_law_625 (by decide) ?_
      exact on2 true
  refine ev_aload_n d_Law_law_589 rfl rfl ?_
  refine ev_aload_n d_Law_law_590 rfl rfl ?_
  refine ev_iload d_Law_law_591 rfl ?_
  refine ev_iconst (v := 1) d_Law_law_593 (by decide) ?_
  refine ev_iadd d_Law_law_594 ?_
  refine ev_sld hSc (hI 1 (by decide)) d_Law_law_595 ?_
  refine ev_if_eq (tgt := 603) d_Law_law_596 (by decide) (fun c_596 => ?_) (fun c_596 => ?_)
  · refine ev_iconst (v := 0) d_Law_law_603 (by decide) ?_
    exact on 0 false
  · refine ev_iconst (v := 1) d_Law_law_599 (by decide) ?_
    refine ev_goto (tgt := 604) d_Law_law_600 (by decide) ?_
    exact on 0 true
/-- the loop -/
theorem q_loop (hNm : gl_nm G) (hT : (gl_t G)[0]? = some (cI, .int)) (hZ : (gl_t G)[1]? = some (cZ, .boolean)) (hJ : (gl_t G)[2]? = some (cJ, .long)) (hE : gl_ex G s170) (hG : gSg G sa sb) (hS2 : gS2 G sa sb) (hD : gDt G tm tz sm sz) (hSc : gl_sc G b L xs) (hL : L < 2 ^ 30) {B1 B2 : Nat} : ∀ (d i : Nat) (h : hp_T) (σ : rwT), L ≤ i + 6 * d → i ≤ L + 6 → LI5 cI cZ cJ X h σ → h.1 + d + 106496 ≤ B1 + sumC σ rws → h.2.1 + 6 * d + 212992 ≤ B2 + 2 * sumC σ rws → ev_E G m_Law_law 23 (lvQ b X i) [] h (lz B1 B2) := by
  intro d
  induction d with
  | zero =>
    intro i h σ hd hi L0 k1 k2
    have hs := LI_sum (LI5_LI L0)
    refine ev_iload d_Law_law_23 rfl ?_
    refine ev_aload_n d_Law_law_25 rfl rfl ?_
    refine ev_slen hSc d_Law_law_26 ?_
    refine ev_bipush (v := 6) d_Law_law_27 (by decide) ?_
    refine ev_isub d_Law_law_29 ?_
    refine ev_icmp_gt (tgt := 648) d_Law_law_30 (by decide) (fun _ => ?_) (fun z => absurd (show nI L - nI 6 < nI i from ?_) z)
    · refine ev_iconst (v := 1) d_Law_law_648 (by decide) ?_
      refine ev_zret d_Law_law_649 rfl rfl ?_
      exact ⟨rfl, by omega, by omega⟩
    · exact q_lt (by omega) (by omega) (by omega)
  | succ d ih =>
    intro i h σ hd hi L0 k1 k2
    have hs := LI_sum (LI5_LI L0)
    refine ev_iload d_Law_law_23 rfl ?_
    refine ev_aload_n d_Law_law_25 rfl rfl ?_
    refine ev_slen hSc d_Law_law_26 ?_
    refine ev_bipush (v := 6) d_Law_law_27 (by decide) ?_
    refine ev_isub d_Law_law_29 ?_
    refine ev_icmp_gt (tgt := 648) d_Law_law_30 (by decide) (fun _ => ?_) (fun c => ?_)
    · refine ev_iconst (v := 1) d_Law_law_648 (by decide) ?_
      refine ev_zret d_Law_law_649 rfl rfl ?_
      exact ⟨rfl, by omega, by omega⟩
    have hi6 : i + 6 ≤ L := by
      rcases Nat.lt_or_ge L (i + 6) with q | q
      · exact absurd (show nI L - nI 6 < nI i from q_lt (by omega) (by omega) (by omega)) c
      · exact q
    have hI : ∀ k : Nat, k < 6 → vp_in (nI i + nI k) L := fun k hk => by
      rw [nI_add]; exact vp_in_nI (by omega) (by omega)
    have hI0 : vp_in (nI i) L := vp_in_nI (by omega) (by omega)
    have kk : ∀ (h' : hp_T) (σ' : rwT), LI5 cI cZ cJ X h' σ' → bR h σ h' σ' → ev_E G m_Law_law 642 (lvQ b X i) [] h' (lz B1 B2) := by
      intro h' σ' L1 r
      obtain ⟨r1, r2⟩ := r
      refine ev_iinc d_Law_law_642 rfl (by decide) ?_
      refine ev_goto (tgt := 23) d_Law_law_645 (by decide) ?_
      rw [show nI i + Int32.ofInt 6 = nI (i + 6) from nI_add i 6]
      exact ih (i + 6) h' σ' (by omega) (by omega) L1 (by omega) (by omega)
    refine ev_aload_n d_Law_law_33 rfl rfl ?_
    refine ev_iload d_Law_law_34 rfl ?_
    refine ev_sld hSc hI0 d_Law_law_36 ?_
    refine ev_bipush (v := 15) d_Law_law_37 (by decide) ?_
    refine ev_iand d_Law_law_39 ?_
    obtain ⟨j, hj, ej⟩ := pk_andE (xs (nI i).toNatClampNeg) (m := 15) 4 (by decide)
    rw [ej]
    rcases (show j = 0 ∨ j = 1 ∨ j = 2 ∨ j = 3 ∨ j = 4 ∨ j = 5 ∨ j = 6 ∨ j = 7 ∨ j = 8 ∨ j = 9 ∨ j = 10 ∨ j = 11 ∨ j = 12 ∨ j = 13 ∨ j = 14 ∨ j = 15 by omega) with rfl | rfl | rfl | rfl | rfl | rfl | rfl | rfl | rfl | rfl | rfl | rfl | rfl | rfl | rfl | rfl
    · exact ev_tableIn (off := 80) (tgt := 120) d_Law_law_40 (by decide) (by decide) (by decide) (by decide) (q_0 hNm hT hZ hJ hE hG hS2 hD hSc hI L0 kk)
    · exact ev_tableIn (off := 151) (tgt := 191) d_Law_law_40 (by decide) (by decide) (by decide) (by decide) (q_1 hNm hT hZ hJ hE hG hS2 hD hSc hI L0 kk)
    · exact ev_tableIn (off := 176) (tgt := 216) d_Law_law_40 (by decide) (by decide) (by decide) (by decide) (q_2 hNm hT hZ hJ hE hG hS2 hD hSc hI L0 kk)
    · exact ev_tableIn (off := 189) (tgt := 229) d_Law_law_40 (by decide) (by decide) (by decide) (by decide) (q_3 hNm hT hZ hJ hE hG hS2 hD hSc hI L0 kk)
    · exact ev_tableIn (off := 202) (tgt := 242) d_Law_law_40 (by decide) (by decide) (by decide) (by decide) (q_4 hNm hT hZ hJ hE hG hS2 hD hSc hI L0 kk)
    · exact ev_tableIn (off := 215) (tgt := 255) d_Law_law_40 (by decide) (by decide) (by decide) (by decide) (q_5 hNm hT hZ hJ hE hG hS2 hD hSc hI L0 kk)
    · exact ev_tableIn (off := 252) (tgt := 292) d_Law_law_40 (by decide) (by decide) (by decide) (by decide) (q_6 hNm hT hZ hJ hE hG hS2 hD hSc hI L0 kk)
    · exact ev_tableIn (off := 301) (tgt := 341) d_Law_law_40 (by decide) (by decide) (by decide) (by decide) (q_7 hNm hT hZ hJ hE hG hS2 hD hSc hI L0 kk)
    · exact ev_tableIn (off := 329) (tgt := 369) d_Law_law_40 (by decide) (by decide) (by decide) (by decide) (q_8 hNm hT hZ hJ hE hG hS2 hD hSc hI L0 kk)
    · exact ev_tableIn (off := 357) (tgt := 397) d_Law_law_40 (by decide) (by decide) (by decide) (by decide) (q_9 hNm hT hZ hJ hE hG hS2 hD hSc hI L0 kk)
    · exact ev_tableIn (off := 385) (tgt := 425) d_Law_law_40 (by decide) (by decide) (by decide) (by decide) (q_10 hNm hT hZ hJ hE hG hS2 hD hSc hI L0 kk)
    · exact ev_tableIn (off := 413) (tgt := 453) d_Law_law_40 (by decide) (by decide) (by decide) (by decide) (q_11 hNm hT hZ hJ hE hG hS2 hD hSc hI L0 kk)
    · exact ev_tableIn (off := 450) (tgt := 490) d_Law_law_40 (by decide) (by decide) (by decide) (by decide) (q_12 hNm hT hZ hJ hE hG hS2 hD hSc hI L0 kk)
    · exact ev_tableIn (off := 487) (tgt := 527) d_Law_law_40 (by decide) (by decide) (by decide) (by decide) (q_13 hNm hT hZ hJ hE hG hS2 hD hSc hI L0 kk)
    · exact ev_tableIn (off := 536) (tgt := 576) d_Law_law_40 (by decide) (by decide) (by decide) (by decide) (q_14 hNm hT hZ hJ hE hG hS2 hD hSc hI L0 kk)
    · exact ev_tableIn (off := 549) (tgt := 589) d_Law_law_40 (by decide) (by decide) (by decide) (by decide) (q_15 hNm hT hZ hJ hE hG hS2 hD hSc hI L0 kk)
theorem q_begin {str : Nat} (hNm : gl_nm G) (hT : (gl_t G)[0]? = some (cI, .int)) (hZ : (gl_t G)[1]? = some (cZ, .boolean)) (hJ : (gl_t G)[2]? = some (cJ, .long)) (hE : gl_ex G s170) (hG : gSg G sa sb) (hS2 : gS2 G sa sb) (hD : gDt G tm tz sm sz) (hSc : gl_sc G b L xs) (hL : L ≤ 3072) {c0 d0 : Nat} {h3 : hp_T} (F : fr cI str X h3) (hm : mf cI cZ (X + 70) h3) (ho : oC cJ X h3) (k1 : h3.1 = X + 99) (k2 : h3.2.1 = d0 + 56068) (hc : c0 = X) : ev_E G m_Law_law 23 (lvQ b X 0) [] h3 (lz (c0 + 200000) (d0 + 400000)) := by
  have hsum : sumC (sg0 X) rws = 416 := by simp [sumC, rws, sg0]
  have L0 : LI5 cI cZ cJ X h3 (sg0 X) := ⟨_, _, _, _, _, _, _, _, _, _, _, new_clS F (by omega), ho, mI_new, hm, ⟨zero_byt, (fun x hx => by cases hx), (fun x hx => by simp [fK] at hx)⟩, new_eS, new_eAd F⟩
  exact q_loop hNm hT hZ hJ hE hG hS2 hD hSc (by omega) 512 0 h3 (sg0 X) (by omega) (by omega) L0 (by omega) (by omega)
set_option maxHeartbeats 4000000 in
/-- the law, from its entry -/
theorem q_law {str : Nat} (hNm : gl_nm G) (hT : (gl_t G)[0]? = some (cI, .int)) (hZ : (gl_t G)[1]? = some (cZ, .boolean)) (hJ : (gl_t G)[2]? = some (cJ, .long)) (hS : gl_sg G str) (hE : gl_ex G s170) (hG : gSg G sa sb) (hS2 : gS2 G sa sb) (hD : gDt G tm tz sm sz) (hSc : gl_sc G b L xs) (hL : L ≤ 3072) (h : hp_T) : ev_E G m_Law_law 0 [(0, .ref b)] [] h (lz (h.1 + 200000) (h.2.1 + 400000)) := by
  refine ev_new (fn_Law_8 rfl rfl) d_Law_law_0 ?_
  refine ev_dup d_Law_law_3 rfl ?_
  refine ev_In [] [.ref h.1] ca_Law_law_26 d_Law_law_4 rfl (Nat.le_of_ble_eq_true rfl) (c_Mail_init hT hS (hp_add h 9 (.inr (0, [.null, .null, .null, .null, .null, .null, .null, .null, .null]))) h.1 rfl (hp_add_self _ _ _)) (fun h1 z => ?_)
  obtain ⟨x1, x2, x3, x4⟩ := z
  have x1' : h1.1 = h.1 + 1 + 69 := x1
  have x2' : h1.2.1 = h.2.1 + 9 + 519 := x2
  refine ev_astore_n d_Law_law_7 rfl (by decide) ?_
  refine ev_new (fn_Law_27 rfl rfl) d_Law_law_8 ?_
  refine ev_dup d_Law_law_11 rfl ?_
  refine ev_In [] [.ref h1.1] ca_Law_law_29 d_Law_law_12 rfl (Nat.le_of_ble_eq_true rfl) (c_Model_init hT hZ _ h1.1 rfl (hp_add_self _ _ _)) (fun h2 y => ?_)
  have hm := mo_new y
  obtain ⟨y1, y2, y3, y4⟩ := y
  have y1' : h2.1 = h1.1 + 1 + 27 := y1
  have y2' : h2.2.1 = h1.2.1 + 45 + 55494 := y2
  refine ev_astore_n d_Law_law_15 rfl (by decide) ?_
  refine ev_iconst (v := 1) d_Law_law_16 (by decide) ?_
  refine ev_newa (atype := .long) (t0 := 2) (N := 1) (cA := cJ) (a0 := (1, .inr (.inl (fun _ => 0)))) (fun _ => rfl) (List.mem_cons_of_mem _ tw_1367) hJ (by decide) (by decide) (by decide) d_Law_law_17 ?_
  refine ev_astore_n d_Law_law_19 rfl (by decide) ?_
  refine ev_iconst (v := 0) d_Law_law_20 (by decide) ?_
  refine ev_istore d_Law_law_21 (by decide) ?_
  have e1 : h1.1 = h.1 + 70 := by omega
  have e2 : h2.1 = h.1 + 98 := by omega
  have F : fr cI str h.1 (hp_add h2 1 (.inl (cJ, 1, .inr (.inl (fun _ => 0))))) := by
    refine ⟨fun k hk => ?_, ?_⟩
    · rw [hp_add_ne (by omega), y4 _ (by omega), hp_add_ne (by omega)]
      exact x3 k hk
    · show h.1 + 69 < h2.1 + 1
      omega
  have hm2 : mf cI cZ (h.1 + 70) (hp_add h2 1 (.inl (cJ, 1, .inr (.inl (fun _ => 0))))) := by
    rw [← e1]
    exact mf_of hm (fun q q1 q2 => hp_add_ne (by omega))
  have ho : oC cJ h.1 (hp_add h2 1 (.inl (cJ, 1, .inr (.inl (fun _ => 0))))) := ⟨_, by rw [← e2]; exact hp_add_self _ _ _⟩
  have k1 : (hp_add h2 1 (.inl (cJ, 1, .inr (.inl (fun _ => 0))))).1 = h.1 + 99 := by show h2.1 + 1 = _; omega
  have k2 : (hp_add h2 1 (.inl (cJ, 1, .inr (.inl (fun _ => 0))))).2.1 = h.2.1 + 56068 := by show h2.2.1 + 1 = _; omega
  refine ev_as (lvQ b h.1 0) ⟨rfl, rfl, ?_, ?_, rfl, trivial⟩ (q_begin hNm hT hZ hJ hE hG hS2 hD hSc hL F hm2 ho k1 k2 rfl)
  · show some (Value.ref h1.1) = _; rw [e1]
  · show some (Value.ref h2.1) = _; rw [e2]
end LAW3
