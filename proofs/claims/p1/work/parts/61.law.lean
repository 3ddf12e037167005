section LAW
variable {G : gl_G} {μ : mt_M} {pc : Nat} {lv : List (Nat × Value)} {st : List Value} {Z : Option Value → hp_T → Prop} {cI cZ cJ : ClassId} {str s170 b L X M o B1 B2 : Nat} {xs : Nat → Int32} {h : hp_T}
/-- the script lies below -/
def gl_sc (G : gl_G) (b L : Nat) (xs : Nat → Int32) : Prop := ∀ U : State, gl_L G U → va_X b L xs U U.heap ∧ b < U.heap.size ∧ ¬ gl_b G ≤ b
theorem ev_sld {i : Int32} (hSc : gl_sc G b L xs) (hin : vp_in i L) (hd : decode (mt_b μ) pc = .ok (.iaload, 1)) (kk : ev_E G μ (pc + 1) lv (.int (xs i.toNatClampNeg) :: st) h Z) : ev_E G μ pc lv (.int i :: .ref b :: st) h Z :=
  ev_pure (fun p e R s m args below meth c C H locs cells slots Q ls hO hS hl k => by
    obtain ⟨hx, hb, hml, hr, hown, hts, hlocks, hname, hK, hL, hbs, -⟩ := C
    obtain ⟨s1, s2, s3⟩ := hSc s hL
    exact va_sld hx hb s1 s2 s3 hS hin hd (k ls hl)) kk
theorem ev_slen (hSc : gl_sc G b L xs) (hd : decode (mt_b μ) pc = .ok (.arraylength, 1)) (kk : ev_E G μ (pc + 1) lv (.int (nI L) :: st) h Z) : ev_E G μ pc lv (.ref b :: st) h Z :=
  ev_pure (fun p e R s m args below meth c C H locs cells slots Q ls hO hS hl k => by
    obtain ⟨hx, hb, hml, hr, hown, hts, hlocks, hname, hK, hL, hbs, -⟩ := C
    obtain ⟨s1, s2, s3⟩ := hSc s hL
    exact va_slen hx hb s1 s2 s3 hS hd (k ls hl)) kk
/-- what the law answers, and how much it made -/
abbrev lz (B1 B2 : Nat) : Option Value → hp_T → Prop := fun v h' => v = some (.int 1) ∧ h'.1 ≤ B1 ∧ h'.2.1 ≤ B2
abbrev lL (b X M o : Nat) : List (Nat × Value) := [(0, .ref b), (1, .ref X), (2, .ref M), (3, .ref o), (4, .int (nI 0))]
theorem l_end0 (hSc : gl_sc G b 6 xs) (k1 : h.1 ≤ B1) (k2 : h.2.1 ≤ B2) : ev_E G m_Law_law 760 [(0, .ref b), (4, .int (nI 0))] [] h (lz B1 B2) := by
  refine ev_iinc d_Law_law_760 rfl (by decide) ?_
  refine ev_goto (tgt := 23) d_Law_law_763 (by decide) ?_
  refine ev_iload d_Law_law_23 rfl ?_
  refine ev_aload_n d_Law_law_25 rfl rfl ?_
  refine ev_slen hSc d_Law_law_26 ?_
  refine ev_bipush (v := 6) d_Law_law_27 (by decide) ?_
  refine ev_isub d_Law_law_29 ?_
  refine ev_icmp_gt (tgt := 766) d_Law_law_30 (by decide) (fun _ => ?_) (fun z => absurd (by decide) z)
  refine ev_iconst (v := 1) d_Law_law_766 (by decide) ?_
  refine ev_zret d_Law_law_767 rfl rfl ?_
  exact ⟨rfl, k1, k2⟩
theorem l_endE (hSc : gl_sc G b 6 xs) (hlv : lq_all lv [(0, .ref b), (4, .int (nI 0))]) (k1 : h.1 ≤ B1) (k2 : h.2.1 ≤ B2) : ev_E G m_Law_law 760 lv [] h (lz B1 B2) := ev_as _ hlv (l_end0 hSc k1 k2)
theorem l_0 (hT : (gl_t G)[0]? = some (cI, .int)) (hSc : gl_sc G b 6 xs) (F : fr cI str X h) (hm : mf cI cZ M h) (hXM : X + 69 < M) (hM : M + 27 < h.1) (k1 : h.1 + 1 ≤ B1) (k2 : h.2.1 + 32 ≤ B2) : ev_E G m_Law_law 120 (lL b X M o) [] h (lz B1 B2) := by
  refine ev_aload_n d_Law_law_120 rfl rfl ?_
  refine ev_aload_n d_Law_law_121 rfl rfl ?_
  refine ev_iload d_Law_law_122 rfl ?_
  refine ev_iconst (v := 1) d_Law_law_124 (by decide) ?_
  refine ev_iadd d_Law_law_125 ?_
  refine ev_sld hSc (pk_in 1 6 (by decide)) d_Law_law_126 ?_
  refine ev_aload_n d_Law_law_127 rfl rfl ?_
  refine ev_iload d_Law_law_128 rfl ?_
  refine ev_iconst (v := 2) d_Law_law_130 (by decide) ?_
  refine ev_iadd d_Law_law_131 ?_
  refine ev_sld hSc (pk_in 2 6 (by decide)) d_Law_law_132 ?_
  refine ev_aload_n d_Law_law_133 rfl rfl ?_
  refine ev_iload d_Law_law_134 rfl ?_
  refine ev_iconst (v := 3) d_Law_law_136 (by decide) ?_
  refine ev_iadd d_Law_law_137 ?_
  refine ev_sld hSc (pk_in 3 6 (by decide)) d_Law_law_138 ?_
  refine ev_aload_n d_Law_law_139 rfl rfl ?_
  refine ev_iload d_Law_law_140 rfl ?_
  refine ev_iconst (v := 4) d_Law_law_142 (by decide) ?_
  refine ev_iadd d_Law_law_143 ?_
  refine ev_sld hSc (pk_in 4 6 (by decide)) d_Law_law_144 ?_
  refine ev_aload_n d_Law_law_145 rfl rfl ?_
  refine ev_iload d_Law_law_146 rfl ?_
  refine ev_iconst (v := 5) d_Law_law_148 (by decide) ?_
  refine ev_iadd d_Law_law_149 ?_
  refine ev_sld hSc (pk_in 5 6 (by decide)) d_Law_law_150 ?_
  refine ev_Vn (ci := 0) [.int _, .int _, .int _, .int _, .int _] [] ca_Law_law_30 d_Law_law_151 rfl ((fr_X F)) rfl (Nat.le_of_ble_eq_true rfl) (f_feed hT F _ _ _ _ _) (fun h1 z => ?_)
  obtain ⟨z1, z2, z3, z4, z5⟩ := z
  have hm1 : mf cI cZ M h1 := mf_of hm (fun q q1 q2 => z5 q (by omega) (by omega))
  refine ev_aload_n d_Law_law_154 rfl rfl ?_
  refine ev_aload_n d_Law_law_155 rfl rfl ?_
  refine ev_iload d_Law_law_156 rfl ?_
  refine ev_iconst (v := 1) d_Law_law_158 (by decide) ?_
  refine ev_iadd d_Law_law_159 ?_
  refine ev_sld hSc (pk_in 1 6 (by decide)) d_Law_law_160 ?_
  refine ev_aload_n d_Law_law_161 rfl rfl ?_
  refine ev_iload d_Law_law_162 rfl ?_
  refine ev_iconst (v := 2) d_Law_law_164 (by decide) ?_
  refine ev_iadd d_Law_law_165 ?_
  refine ev_sld hSc (pk_in 2 6 (by decide)) d_Law_law_166 ?_
  refine ev_aload_n d_Law_law_167 rfl rfl ?_
  refine ev_iload d_Law_law_168 rfl ?_
  refine ev_iconst (v := 3) d_Law_law_170 (by decide) ?_
  refine ev_iadd d_Law_law_171 ?_
  refine ev_sld hSc (pk_in 3 6 (by decide)) d_Law_law_172 ?_
  refine ev_aload_n d_Law_law_173 rfl rfl ?_
  refine ev_iload d_Law_law_174 rfl ?_
  refine ev_iconst (v := 4) d_Law_law_176 (by decide) ?_
  refine ev_iadd d_Law_law_177 ?_
  refine ev_sld hSc (pk_in 4 6 (by decide)) d_Law_law_178 ?_
  refine ev_aload_n d_Law_law_179 rfl rfl ?_
  refine ev_iload d_Law_law_180 rfl ?_
  refine ev_iconst (v := 5) d_Law_law_182 (by decide) ?_
  refine ev_iadd d_Law_law_183 ?_
  refine ev_sld hSc (pk_in 5 6 (by decide)) d_Law_law_184 ?_
  refine ev_Vn (ci := 9) [.int _, .int _, .int _, .int _, .int _] [] ca_Law_law_34 d_Law_law_185 rfl ((mf_M hm1)) rfl (Nat.le_of_ble_eq_true rfl) (g_feed hT hm1 _ _ _ _ _) (fun h1 z => ?_)
  obtain ⟨y1, y2⟩ := z
  refine ev_goto (tgt := 760) d_Law_law_188 (by decide) ?_
  exact l_endE hSc ⟨rfl, rfl, trivial⟩ (by omega) (by omega)
theorem l_1 (hT : (gl_t G)[0]? = some (cI, .int)) (hSc : gl_sc G b 6 xs) (F : fr cI str X h) (hm : mf cI cZ M h) (hXM : X + 69 < M) (hM : M + 27 < h.1) (k1 : h.1 + 1 ≤ B1) (k2 : h.2.1 + 32 ≤ B2) : ev_E G m_Law_law 191 (lL b X M o) [] h (lz B1 B2) := by
  refine ev_aload_n d_Law_law_191 rfl rfl ?_
  refine ev_aload_n d_Law_law_192 rfl rfl ?_
  refine ev_iload d_Law_law_193 rfl ?_
  refine ev_iconst (v := 1) d_Law_law_195 (by decide) ?_
  refine ev_iadd d_Law_law_196 ?_
  refine ev_sld hSc (pk_in 1 6 (by decide)) d_Law_law_197 ?_
  refine ev_Vr (ci := 0) [.int _] [] ca_Law_law_35 d_Law_law_198 rfl ((fr_X F)) rfl (Nat.le_of_ble_eq_true rfl) (f_end hT F _) (fun v h1 z => ?_)
  have zk : kf X h h1 := by
    rcases z with ⟨_, _, q⟩ | ⟨_, _, _, _, q⟩
    · exact q
    · exact q
  obtain ⟨z1, z2, z3, z4, z5⟩ := zk
  have hm1 : mf cI cZ M h1 := mf_of hm (fun q q1 q2 => z5 q (by omega) (by omega))
  refine ev_aload_n d_Law_law_201 rfl rfl ?_
  refine ev_aload_n d_Law_law_202 rfl rfl ?_
  refine ev_iload d_Law_law_203 rfl ?_
  refine ev_iconst (v := 1) d_Law_law_205 (by decide) ?_
  refine ev_iadd d_Law_law_206 ?_
  refine ev_sld hSc (pk_in 1 6 (by decide)) d_Law_law_207 ?_
  refine ev_Vr (ci := 9) [.int _] [v] ca_Law_law_38 d_Law_law_208 rfl (mf_M hm1) rfl ?_ (g_end hT hm1 _) (fun w h2 y => ?_)
  · rcases z with ⟨_, rfl, _⟩ | ⟨_, _, _, rfl, _⟩
    · exact Nat.le_of_ble_eq_true rfl
    · exact Nat.le_of_ble_eq_true rfl
  obtain ⟨⟨y1, y2⟩, y3⟩ := y
  have e : v = w := by
    rcases z with ⟨q1, rfl, _⟩ | ⟨m, q1, q2, rfl, _⟩
    · rcases y3 with ⟨-, rfl⟩ | ⟨m', p1, p2, rfl⟩
      · rfl
      · exact absurd ⟨m', p1, by omega, p2⟩ q1
    · rcases y3 with ⟨p1, -⟩ | ⟨m', p1, p2, rfl⟩
      · exact absurd ⟨m, q1, by omega, q2⟩ p1
      · rw [← q2, ← p2]
  have ei : ∃ i : Int32, v = .int i := by
    rcases z with ⟨_, q, _⟩ | ⟨_, _, _, q, _⟩
    · exact ⟨_, q⟩
    · exact ⟨_, q⟩
  obtain ⟨i, rfl⟩ := ei
  subst e
  refine ev_icmp_eq (tgt := 760) d_Law_law_211 (by decide) (fun _ => ?_) (fun z => absurd rfl z)
  exact l_endE hSc ⟨rfl, rfl, trivial⟩ (by omega) (by omega)
theorem l_2 (hT : (gl_t G)[0]? = some (cI, .int)) (hSc : gl_sc G b 6 xs) (F : fr cI str X h) (hm : mf cI cZ M h) (k1 : h.1 ≤ B1) (k2 : h.2.1 ≤ B2) : ev_E G m_Law_law 216 (lL b X M o) [] h (lz B1 B2) := by
  refine ev_aload_n d_Law_law_216 rfl rfl ?_
  refine ev_Vv (ci := 0) [] [] ca_Law_law_39 d_Law_law_217 rfl ((fr_X F)) rfl (Nat.le_of_ble_eq_true rfl) (f_read F) ?_
  refine ev_aload_n d_Law_law_220 rfl rfl ?_
  refine ev_Vr (ci := 9) [] [.int (0)] ca_Law_law_43 d_Law_law_221 rfl ((mf_M hm)) rfl (Nat.le_of_ble_eq_true rfl) (g_read hT hm) (fun v h1 z => ?_)
  obtain ⟨rfl, z1, z2⟩ := z
  refine ev_icmp_eq (tgt := 760) d_Law_law_224 (by decide) (fun _ => ?_) (fun z => absurd rfl z)
  exact l_endE hSc ⟨rfl, rfl, trivial⟩ (by omega) (by omega)
theorem l_3 (hT : (gl_t G)[0]? = some (cI, .int)) (hSc : gl_sc G b 6 xs) (F : fr cI str X h) (hm : mf cI cZ M h) (k1 : h.1 ≤ B1) (k2 : h.2.1 ≤ B2) : ev_E G m_Law_law 229 (lL b X M o) [] h (lz B1 B2) := by
  refine ev_aload_n d_Law_law_229 rfl rfl ?_
  refine ev_Vv (ci := 0) [] [] ca_Law_law_44 d_Law_law_230 rfl ((fr_X F)) rfl (Nat.le_of_ble_eq_true rfl) (f_bad F) ?_
  refine ev_aload_n d_Law_law_233 rfl rfl ?_
  refine ev_Vr (ci := 9) [] [.int (0)] ca_Law_law_47 d_Law_law_234 rfl ((mf_M hm)) rfl (Nat.le_of_ble_eq_true rfl) (g_bad hm) (fun v h1 z => ?_)
  obtain ⟨rfl, z1, z2⟩ := z
  refine ev_icmp_eq (tgt := 760) d_Law_law_237 (by decide) (fun _ => ?_) (fun z => absurd rfl z)
  exact l_endE hSc ⟨rfl, rfl, trivial⟩ (by omega) (by omega)
theorem l_4 (hT : (gl_t G)[0]? = some (cI, .int)) (hSc : gl_sc G b 6 xs) (F : fr cI str X h) (hm : mf cI cZ M h) (k1 : h.1 ≤ B1) (k2 : h.2.1 ≤ B2) : ev_E G m_Law_law 242 (lL b X M o) [] h (lz B1 B2) := by
  refine ev_aload_n d_Law_law_242 rfl rfl ?_
  refine ev_Vv (ci := 0) [] [] ca_Law_law_48 d_Law_law_243 rfl ((fr_X F)) rfl (Nat.le_of_ble_eq_true rfl) (f_find F) ?_
  refine ev_aload_n d_Law_law_246 rfl rfl ?_
  refine ev_Vr (ci := 9) [] [.int (-1)] ca_Law_law_51 d_Law_law_247 rfl ((mf_M hm)) rfl (Nat.le_of_ble_eq_true rfl) (g_find hT hm) (fun v h1 z => ?_)
  obtain ⟨rfl, z1, z2⟩ := z
  refine ev_icmp_eq (tgt := 760) d_Law_law_250 (by decide) (fun _ => ?_) (fun z => absurd rfl z)
  exact l_endE hSc ⟨rfl, rfl, trivial⟩ (by omega) (by omega)
theorem l_5 (hT : (gl_t G)[0]? = some (cI, .int)) (hSc : gl_sc G b 6 xs) (F : fr cI str X h) (hm : mf cI cZ M h) (k1 : h.1 ≤ B1) (k2 : h.2.1 ≤ B2) : ev_E G m_Law_law 255 (lL b X M o) [] h (lz B1 B2) := by
  refine ev_aload_n d_Law_law_255 rfl rfl ?_
  refine ev_aload_n d_Law_law_256 rfl rfl ?_
  refine ev_iload d_Law_law_257 rfl ?_
  refine ev_iconst (v := 1) d_Law_law_259 (by decide) ?_
  refine ev_iadd d_Law_law_260 ?_
  refine ev_sld hSc (pk_in 1 6 (by decide)) d_Law_law_261 ?_
  refine ev_aload_n d_Law_law_262 rfl rfl ?_
  refine ev_iload d_Law_law_263 rfl ?_
  refine ev_iconst (v := 2) d_Law_law_265 (by decide) ?_
  refine ev_iadd d_Law_law_266 ?_
  refine ev_sld hSc (pk_in 2 6 (by decide)) d_Law_law_267 ?_
  refine ev_Vv (ci := 0) [.int _, .int _] [] ca_Law_law_52 d_Law_law_268 rfl ((fr_X F)) rfl (Nat.le_of_ble_eq_true rfl) (f_field hT F _ _) ?_
  refine ev_aload_n d_Law_law_271 rfl rfl ?_
  refine ev_aload_n d_Law_law_272 rfl rfl ?_
  refine ev_iload d_Law_law_273 rfl ?_
  refine ev_iconst (v := 1) d_Law_law_275 (by decide) ?_
  refine ev_iadd d_Law_law_276 ?_
  refine ev_sld hSc (pk_in 1 6 (by decide)) d_Law_law_277 ?_
  refine ev_aload_n d_Law_law_278 rfl rfl ?_
  refine ev_iload d_Law_law_279 rfl ?_
  refine ev_iconst (v := 2) d_Law_law_281 (by decide) ?_
  refine ev_iadd d_Law_law_282 ?_
  refine ev_sld hSc (pk_in 2 6 (by decide)) d_Law_law_283 ?_
  refine ev_Vr (ci := 9) [.int _, .int _] [.int (-1)] ca_Law_law_56 d_Law_law_284 rfl ((mf_M hm)) rfl (Nat.le_of_ble_eq_true rfl) (g_field hT hm _ _) (fun v h1 z => ?_)
  obtain ⟨rfl, z1, z2⟩ := z
  refine ev_icmp_eq (tgt := 760) d_Law_law_287 (by decide) (fun _ => ?_) (fun z => absurd rfl z)
  exact l_endE hSc ⟨rfl, rfl, trivial⟩ (by omega) (by omega)
theorem l_6 (hT : (gl_t G)[0]? = some (cI, .int)) (hSc : gl_sc G b 6 xs) (F : fr cI str X h) (hm : mf cI cZ M h) (k1 : h.1 ≤ B1) (k2 : h.2.1 ≤ B2) : ev_E G m_Law_law 292 (lL b X M o) [] h (lz B1 B2) := by
  refine ev_aload_n d_Law_law_292 rfl rfl ?_
  refine ev_aload_n d_Law_law_293 rfl rfl ?_
  refine ev_iload d_Law_law_294 rfl ?_
  refine ev_iconst (v := 1) d_Law_law_296 (by decide) ?_
  refine ev_iadd d_Law_law_297 ?_
  refine ev_sld hSc (pk_in 1 6 (by decide)) d_Law_law_298 ?_
  refine ev_aload_n d_Law_law_299 rfl rfl ?_
  refine ev_iload d_Law_law_300 rfl ?_
  refine ev_iconst (v := 2) d_Law_law_302 (by decide) ?_
  refine ev_iadd d_Law_law_303 ?_
  refine ev_sld hSc (pk_in 2 6 (by decide)) d_Law_law_304 ?_
  refine ev_aload_n d_Law_law_305 rfl rfl ?_
  refine ev_iload d_Law_law_306 rfl ?_
  refine ev_iconst (v := 3) d_Law_law_308 (by decide) ?_
  refine ev_iadd d_Law_law_309 ?_
  refine ev_sld hSc (pk_in 3 6 (by decide)) d_Law_law_310 ?_
  refine ev_Vv (ci := 0) [.int _, .int _, .int _] [] ca_Law_law_57 d_Law_law_311 rfl ((fr_X F)) rfl (Nat.le_of_ble_eq_true rfl) (f_fieldByte hT F _ _ _) ?_
  refine ev_aload_n d_Law_law_314 rfl rfl ?_
  refine ev_aload_n d_Law_law_315 rfl rfl ?_
  refine ev_iload d_Law_law_316 rfl ?_
  refine ev_iconst (v := 1) d_Law_law_318 (by decide) ?_
  refine ev_iadd d_Law_law_319 ?_
  refine ev_sld hSc (pk_in 1 6 (by decide)) d_Law_law_320 ?_
  refine ev_aload_n d_Law_law_321 rfl rfl ?_
  refine ev_iload d_Law_law_322 rfl ?_
  refine ev_iconst (v := 2) d_Law_law_324 (by decide) ?_
  refine ev_iadd d_Law_law_325 ?_
  refine ev_sld hSc (pk_in 2 6 (by decide)) d_Law_law_326 ?_
  refine ev_aload_n d_Law_law_327 rfl rfl ?_
  refine ev_iload d_Law_law_328 rfl ?_
  refine ev_iconst (v := 3) d_Law_law_330 (by decide) ?_
  refine ev_iadd d_Law_law_331 ?_
  refine ev_sld hSc (pk_in 3 6 (by decide)) d_Law_law_332 ?_
  refine ev_Vr (ci := 9) [.int _, .int _, .int _] [.int (-1)] ca_Law_law_61 d_Law_law_333 rfl ((mf_M hm)) rfl (Nat.le_of_ble_eq_true rfl) (g_fieldByte hT hm _ _ _) (fun v h1 z => ?_)
  obtain ⟨rfl, z1, z2⟩ := z
  refine ev_icmp_eq (tgt := 760) d_Law_law_336 (by decide) (fun _ => ?_) (fun z => absurd rfl z)
  exact l_endE hSc ⟨rfl, rfl, trivial⟩ (by omega) (by omega)
theorem l_11 (hT : (gl_t G)[0]? = some (cI, .int)) (hSc : gl_sc G b 6 xs) (F : fr cI str X h) (hm : mf cI cZ M h) (k1 : h.1 ≤ B1) (k2 : h.2.1 ≤ B2) : ev_E G m_Law_law 571 (lL b X M o) [] h (lz B1 B2) := by
  refine ev_aload_n d_Law_law_571 rfl rfl ?_
  refine ev_aload_n d_Law_law_572 rfl rfl ?_
  refine ev_iload d_Law_law_573 rfl ?_
  refine ev_iconst (v := 1) d_Law_law_575 (by decide) ?_
  refine ev_iadd d_Law_law_576 ?_
  refine ev_sld hSc (pk_in 1 6 (by decide)) d_Law_law_577 ?_
  refine ev_aload_n d_Law_law_578 rfl rfl ?_
  refine ev_iload d_Law_law_579 rfl ?_
  refine ev_iconst (v := 2) d_Law_law_581 (by decide) ?_
  refine ev_iadd d_Law_law_582 ?_
  refine ev_sld hSc (pk_in 2 6 (by decide)) d_Law_law_583 ?_
  refine ev_Vv (ci := 0) [.int _, .int _] [] ca_Law_law_80 d_Law_law_584 rfl ((fr_X F)) rfl (Nat.le_of_ble_eq_true rfl) (f_group hT F _ _) ?_
  refine ev_aload_n d_Law_law_587 rfl rfl ?_
  refine ev_aload_n d_Law_law_588 rfl rfl ?_
  refine ev_iload d_Law_law_589 rfl ?_
  refine ev_iconst (v := 1) d_Law_law_591 (by decide) ?_
  refine ev_iadd d_Law_law_592 ?_
  refine ev_sld hSc (pk_in 1 6 (by decide)) d_Law_law_593 ?_
  refine ev_aload_n d_Law_law_594 rfl rfl ?_
  refine ev_iload d_Law_law_595 rfl ?_
  refine ev_iconst (v := 2) d_Law_law_597 (by decide) ?_
  refine ev_iadd d_Law_law_598 ?_
  refine ev_sld hSc (pk_in 2 6 (by decide)) d_Law_law_599 ?_
  refine ev_Vr (ci := 9) [.int _, .int _] [.int _] ca_Law_law_83 d_Law_law_600 rfl ((mf_M hm)) rfl (Nat.le_of_ble_eq_true rfl) (g_group hT hm _ _) (fun v h1 z => ?_)
  obtain ⟨rfl, z1, z2⟩ := z
  refine ev_icmp_eq (tgt := 760) d_Law_law_603 (by decide) (fun _ => ?_) (fun z => absurd rfl z)
  exact l_endE hSc ⟨rfl, rfl, trivial⟩ (by omega) (by omega)
theorem l_12 (hT : (gl_t G)[0]? = some (cI, .int)) (hSc : gl_sc G b 6 xs) (F : fr cI str X h) (hm : mf cI cZ M h) (k1 : h.1 ≤ B1) (k2 : h.2.1 ≤ B2) : ev_E G m_Law_law 608 (lL b X M o) [] h (lz B1 B2) := by
  refine ev_aload_n d_Law_law_608 rfl rfl ?_
  refine ev_aload_n d_Law_law_609 rfl rfl ?_
  refine ev_iload d_Law_law_610 rfl ?_
  refine ev_iconst (v := 1) d_Law_law_612 (by decide) ?_
  refine ev_iadd d_Law_law_613 ?_
  refine ev_sld hSc (pk_in 1 6 (by decide)) d_Law_law_614 ?_
  refine ev_aload_n d_Law_law_615 rfl rfl ?_
  refine ev_iload d_Law_law_616 rfl ?_
  refine ev_iconst (v := 2) d_Law_law_618 (by decide) ?_
  refine ev_iadd d_Law_law_619 ?_
  refine ev_sld hSc (pk_in 2 6 (by decide)) d_Law_law_620 ?_
  refine ev_Vv (ci := 0) [.int _, .int _] [] ca_Law_law_84 d_Law_law_621 rfl ((fr_X F)) rfl (Nat.le_of_ble_eq_true rfl) (f_length hT F _ _) ?_
  refine ev_aload_n d_Law_law_624 rfl rfl ?_
  refine ev_aload_n d_Law_law_625 rfl rfl ?_
  refine ev_iload d_Law_law_626 rfl ?_
  refine ev_iconst (v := 1) d_Law_law_628 (by decide) ?_
  refine ev_iadd d_Law_law_629 ?_
  refine ev_sld hSc (pk_in 1 6 (by decide)) d_Law_law_630 ?_
  refine ev_aload_n d_Law_law_631 rfl rfl ?_
  refine ev_iload d_Law_law_632 rfl ?_
  refine ev_iconst (v := 2) d_Law_law_634 (by decide) ?_
  refine ev_iadd d_Law_law_635 ?_
  refine ev_sld hSc (pk_in 2 6 (by decide)) d_Law_law_636 ?_
  refine ev_Vr (ci := 9) [.int _, .int _] [.int (-1)] ca_Law_law_87 d_Law_law_637 rfl ((mf_M hm)) rfl (Nat.le_of_ble_eq_true rfl) (g_length hT hm _ _) (fun v h1 z => ?_)
  obtain ⟨rfl, z1, z2⟩ := z
  refine ev_icmp_eq (tgt := 760) d_Law_law_640 (by decide) (fun _ => ?_) (fun z => absurd rfl z)
  exact l_endE hSc ⟨rfl, rfl, trivial⟩ (by omega) (by omega)
theorem l_13 (hT : (gl_t G)[0]? = some (cI, .int)) (hSc : gl_sc G b 6 xs) (F : fr cI str X h) (hm : mf cI cZ M h) (k1 : h.1 ≤ B1) (k2 : h.2.1 ≤ B2) : ev_E G m_Law_law 645 (lL b X M o) [] h (lz B1 B2) := by
  refine ev_aload_n d_Law_law_645 rfl rfl ?_
  refine ev_aload_n d_Law_law_646 rfl rfl ?_
  refine ev_iload d_Law_law_647 rfl ?_
  refine ev_iconst (v := 1) d_Law_law_649 (by decide) ?_
  refine ev_iadd d_Law_law_650 ?_
  refine ev_sld hSc (pk_in 1 6 (by decide)) d_Law_law_651 ?_
  refine ev_aload_n d_Law_law_652 rfl rfl ?_
  refine ev_iload d_Law_law_653 rfl ?_
  refine ev_iconst (v := 2) d_Law_law_655 (by decide) ?_
  refine ev_iadd d_Law_law_656 ?_
  refine ev_sld hSc (pk_in 2 6 (by decide)) d_Law_law_657 ?_
  refine ev_aload_n d_Law_law_658 rfl rfl ?_
  refine ev_iload d_Law_law_659 rfl ?_
  refine ev_iconst (v := 3) d_Law_law_661 (by decide) ?_
  refine ev_iadd d_Law_law_662 ?_
  refine ev_sld hSc (pk_in 3 6 (by decide)) d_Law_law_663 ?_
  refine ev_Vv (ci := 0) [.int _, .int _, .int _] [] ca_Law_law_88 d_Law_law_664 rfl ((fr_X F)) rfl (Nat.le_of_ble_eq_true rfl) (f_at hT F _ _ _) ?_
  refine ev_aload_n d_Law_law_667 rfl rfl ?_
  refine ev_aload_n d_Law_law_668 rfl rfl ?_
  refine ev_iload d_Law_law_669 rfl ?_
  refine ev_iconst (v := 1) d_Law_law_671 (by decide) ?_
  refine ev_iadd d_Law_law_672 ?_
  refine ev_sld hSc (pk_in 1 6 (by decide)) d_Law_law_673 ?_
  refine ev_aload_n d_Law_law_674 rfl rfl ?_
  refine ev_iload d_Law_law_675 rfl ?_
  refine ev_iconst (v := 2) d_Law_law_677 (by decide) ?_
  refine ev_iadd d_Law_law_678 ?_
  refine ev_sld hSc (pk_in 2 6 (by decide)) d_Law_law_679 ?_
  refine ev_aload_n d_Law_law_680 rfl rfl ?_
  refine ev_iload d_Law_law_681 rfl ?_
  refine ev_iconst (v := 3) d_Law_law_683 (by decide) ?_
  refine ev_iadd d_Law_law_684 ?_
  refine ev_sld hSc (pk_in 3 6 (by decide)) d_Law_law_685 ?_
  refine ev_Vr (ci := 9) [.int _, .int _, .int _] [.int (-1)] ca_Law_law_91 d_Law_law_686 rfl ((mf_M hm)) rfl (Nat.le_of_ble_eq_true rfl) (g_at hT hm _ _ _) (fun v h1 z => ?_)
  obtain ⟨rfl, z1, z2⟩ := z
  refine ev_icmp_eq (tgt := 760) d_Law_law_689 (by decide) (fun _ => ?_) (fun z => absurd rfl z)
  exact l_endE hSc ⟨rfl, rfl, trivial⟩ (by omega) (by omega)
theorem l_14 (hT : (gl_t G)[0]? = some (cI, .int)) (hSc : gl_sc G b 6 xs) (F : fr cI str X h) (hm : mf cI cZ M h) (k1 : h.1 ≤ B1) (k2 : h.2.1 ≤ B2) : ev_E G m_Law_law 694 (lL b X M o) [] h (lz B1 B2) := by
  refine ev_aload_n d_Law_law_694 rfl rfl ?_
  refine ev_Vv (ci := 0) [] [] ca_Law_law_92 d_Law_law_695 rfl ((fr_X F)) rfl (Nat.le_of_ble_eq_true rfl) (f_parameter F) ?_
  refine ev_aload_n d_Law_law_698 rfl rfl ?_
  refine ev_Vr (ci := 9) [] [.int (-1)] ca_Law_law_95 d_Law_law_699 rfl ((mf_M hm)) rfl (Nat.le_of_ble_eq_true rfl) (g_parameter hT hm) (fun v h1 z => ?_)
  obtain ⟨rfl, z1, z2⟩ := z
  refine ev_icmp_eq (tgt := 760) d_Law_law_702 (by decide) (fun _ => ?_) (fun z => absurd rfl z)
  exact l_endE hSc ⟨rfl, rfl, trivial⟩ (by omega) (by omega)
theorem l_7 (hT : (gl_t G)[0]? = some (cI, .int)) (hE : gl_ex G s170) (hSc : gl_sc G b 6 xs) (F : fr cI str X h) (hm : mf cI cZ M h) (k1 : h.1 + 1 ≤ B1) (k2 : h.2.1 + 32 ≤ B2) : ev_E G m_Law_law 341 (lL b X M o) [] h (lz B1 B2) := by
  refine ev_aload_n d_Law_law_341 rfl rfl ?_
  refine ev_aload_n d_Law_law_342 rfl rfl ?_
  refine ev_iload d_Law_law_343 rfl ?_
  refine ev_iconst (v := 1) d_Law_law_345 (by decide) ?_
  refine ev_iadd d_Law_law_346 ?_
  refine ev_sld hSc (pk_in 1 6 (by decide)) d_Law_law_347 ?_
  refine ev_aload_n d_Law_law_348 rfl rfl ?_
  refine ev_callSH (ν := m_Law_addresses) (hs := hs_Law_addresses) [.ref X, .int _, .ref o] [] (List.mem_cons_of_mem _ cw_Law_law_62.1.1) (List.mem_cons_of_mem _ cw_Law_law_62.1.2.1) (List.mem_cons_of_mem _ cw_Law_law_62.1.2.2) (List.mem_cons_of_mem _ cw_Law_law_62.2) (gi_W cw_Law_law_62.2) (n := 3) (by decide +kernel) (by decide) d_Law_law_349 rfl (Nat.le_of_ble_eq_true rfl) (c_Law_addresses hE F _ o) (fun o1 h1 z => ?_)
  obtain ⟨v, rfl, rfl, rfl⟩ := z
  have hm1 : mf cI cZ M (hp_more h 1 6) := mf_of hm (fun _ _ _ => rfl)
  show ev_E G m_Law_law 352 (lL b X M o) [.int 1] _ _
  refine ev_istore d_Law_law_352 (by decide) ?_
  refine ev_aload_n d_Law_law_354 rfl rfl ?_
  refine ev_aload_n d_Law_law_355 rfl rfl ?_
  refine ev_iload d_Law_law_356 rfl ?_
  refine ev_iconst (v := 1) d_Law_law_358 (by decide) ?_
  refine ev_iadd d_Law_law_359 ?_
  refine ev_sld hSc (pk_in 1 6 (by decide)) d_Law_law_360 ?_
  refine ev_Vr (ci := 9) [.int _] [] ca_Law_law_67 d_Law_law_361 rfl ((mf_M hm1)) rfl (Nat.le_of_ble_eq_true rfl) (g_addresses hm1 _) (fun v h1 z => ?_)
  obtain ⟨rfl, rfl⟩ := z
  refine ev_istore d_Law_law_364 (by decide) ?_
  refine ev_aload_n d_Law_law_366 rfl rfl ?_
  refine ev_Vv (ci := 9) [] [] ca_Law_law_68 d_Law_law_367 rfl (mo_self) rfl (Nat.le_of_ble_eq_true rfl) (c_Model_thrown) ?_
  refine ev_iload d_Law_law_370 rfl ?_
  refine ev_icmp_eq (tgt := 377) d_Law_law_372 (by decide) (fun _ => ?_) (fun z => absurd rfl z)
  refine ev_iload d_Law_law_377 rfl ?_
  refine ev_if_ne (tgt := 394) d_Law_law_379 (by decide) (fun _ => ?_) (fun z => absurd (show (1 : Int32) = 0 from z) (by decide))
  refine ev_goto (tgt := 760) d_Law_law_394 (by decide) ?_
  refine l_endE hSc ⟨rfl, rfl, trivial⟩ ?_ ?_
  · show h.1 + 1 ≤ B1; omega
  · show h.2.1 + 6 ≤ B2; omega
theorem l_8 (hT : (gl_t G)[0]? = some (cI, .int)) (hE : gl_ex G s170) (hSc : gl_sc G b 6 xs) (F : fr cI str X h) (hm : mf cI cZ M h) (k1 : h.1 + 1 ≤ B1) (k2 : h.2.1 + 32 ≤ B2) : ev_E G m_Law_law 397 (lL b X M o) [] h (lz B1 B2) := by
  refine ev_aload_n d_Law_law_397 rfl rfl ?_
  refine ev_aload_n d_Law_law_398 rfl rfl ?_
  refine ev_iload d_Law_law_399 rfl ?_
  refine ev_iconst (v := 1) d_Law_law_401 (by decide) ?_
  refine ev_iadd d_Law_law_402 ?_
  refine ev_sld hSc (pk_in 1 6 (by decide)) d_Law_law_403 ?_
  refine ev_aload_n d_Law_law_404 rfl rfl ?_
  refine ev_callSH (ν := m_Law_identities) (hs := hs_Law_identities) [.ref X, .int _, .ref o] [] (List.mem_cons_of_mem _ cw_Law_law_71.1.1) (List.mem_cons_of_mem _ cw_Law_law_71.1.2.1) (List.mem_cons_of_mem _ cw_Law_law_71.1.2.2) (List.mem_cons_of_mem _ cw_Law_law_71.2) (gi_W cw_Law_law_71.2) (n := 3) (by decide +kernel) (by decide) d_Law_law_405 rfl (Nat.le_of_ble_eq_true rfl) (c_Law_identities hE F _ o) (fun o1 h1 z => ?_)
  obtain ⟨v, rfl, rfl, rfl⟩ := z
  have hm1 : mf cI cZ M (hp_more h 1 6) := mf_of hm (fun _ _ _ => rfl)
  show ev_E G m_Law_law 408 (lL b X M o) [.int 1] _ _
  refine ev_istore d_Law_law_408 (by decide) ?_
  refine ev_aload_n d_Law_law_410 rfl rfl ?_
  refine ev_aload_n d_Law_law_411 rfl rfl ?_
  refine ev_iload d_Law_law_412 rfl ?_
  refine ev_iconst (v := 1) d_Law_law_414 (by decide) ?_
  refine ev_iadd d_Law_law_415 ?_
  refine ev_sld hSc (pk_in 1 6 (by decide)) d_Law_law_416 ?_
  refine ev_Vr (ci := 9) [.int _] [] ca_Law_law_73 d_Law_law_417 rfl ((mf_M hm1)) rfl (Nat.le_of_ble_eq_true rfl) (g_identities hT hm1 _) (fun v h1 z => ?_)
  obtain ⟨rfl, rfl⟩ := z
  refine ev_istore d_Law_law_420 (by decide) ?_
  refine ev_aload_n d_Law_law_422 rfl rfl ?_
  refine ev_Vv (ci := 9) [] [] ca_Law_law_68 d_Law_law_423 rfl (mo_self) rfl (Nat.le_of_ble_eq_true rfl) (c_Model_thrown) ?_
  refine ev_iload d_Law_law_426 rfl ?_
  refine ev_icmp_eq (tgt := 433) d_Law_law_428 (by decide) (fun _ => ?_) (fun z => absurd rfl z)
  refine ev_iload d_Law_law_433 rfl ?_
  refine ev_if_ne (tgt := 450) d_Law_law_435 (by decide) (fun _ => ?_) (fun z => absurd (show (1 : Int32) = 0 from z) (by decide))
  refine ev_goto (tgt := 760) d_Law_law_450 (by decide) ?_
  refine l_endE hSc ⟨rfl, rfl, trivial⟩ ?_ ?_
  · show h.1 + 1 ≤ B1; omega
  · show h.2.1 + 6 ≤ B2; omega
theorem l_9 (hT : (gl_t G)[0]? = some (cI, .int)) (hE : gl_ex G s170) (hSc : gl_sc G b 6 xs) (F : fr cI str X h) (hm : mf cI cZ M h) (k1 : h.1 + 1 ≤ B1) (k2 : h.2.1 + 32 ≤ B2) : ev_E G m_Law_law 453 (lL b X M o) [] h (lz B1 B2) := by
  refine ev_aload_n d_Law_law_453 rfl rfl ?_
  refine ev_aload_n d_Law_law_454 rfl rfl ?_
  refine ev_iload d_Law_law_455 rfl ?_
  refine ev_iconst (v := 1) d_Law_law_457 (by decide) ?_
  refine ev_iadd d_Law_law_458 ?_
  refine ev_sld hSc (pk_in 1 6 (by decide)) d_Law_law_459 ?_
  refine ev_aload_n d_Law_law_460 rfl rfl ?_
  refine ev_callSH (ν := m_Law_date) (hs := hs_Law_date) [.ref X, .int _, .ref o] [] (List.mem_cons_of_mem _ cw_Law_law_74.1.1) (List.mem_cons_of_mem _ cw_Law_law_74.1.2.1) (List.mem_cons_of_mem _ cw_Law_law_74.1.2.2) (List.mem_cons_of_mem _ cw_Law_law_74.2) (gi_W cw_Law_law_74.2) (n := 3) (by decide +kernel) (by decide) d_Law_law_461 rfl (Nat.le_of_ble_eq_true rfl) (c_Law_date hE F _ o) (fun o1 h1 z => ?_)
  obtain ⟨v, rfl, rfl, rfl⟩ := z
  have hm1 : mf cI cZ M (hp_more h 1 6) := mf_of hm (fun _ _ _ => rfl)
  show ev_E G m_Law_law 464 (lL b X M o) [.int 1] _ _
  refine ev_istore d_Law_law_464 (by decide) ?_
  refine ev_aload_n d_Law_law_466 rfl rfl ?_
  refine ev_aload_n d_Law_law_467 rfl rfl ?_
  refine ev_iload d_Law_law_468 rfl ?_
  refine ev_iconst (v := 1) d_Law_law_470 (by decide) ?_
  refine ev_iadd d_Law_law_471 ?_
  refine ev_sld hSc (pk_in 1 6 (by decide)) d_Law_law_472 ?_
  refine ev_Vr (ci := 9) [.int _] [] ca_Law_law_76 d_Law_law_473 rfl ((mf_M hm1)) rfl (Nat.le_of_ble_eq_true rfl) (g_date hm1 _) (fun v h1 z => ?_)
  obtain ⟨rfl, rfl⟩ := z
  refine ev_lstore d_Law_law_476 (by decide) ?_
  refine ev_aload_n d_Law_law_478 rfl rfl ?_
  refine ev_Vv (ci := 9) [] [] ca_Law_law_68 d_Law_law_479 rfl (mo_self) rfl (Nat.le_of_ble_eq_true rfl) (c_Model_thrown) ?_
  refine ev_iload d_Law_law_482 rfl ?_
  refine ev_icmp_eq (tgt := 489) d_Law_law_484 (by decide) (fun _ => ?_) (fun z => absurd rfl z)
  refine ev_iload d_Law_law_489 rfl ?_
  refine ev_if_ne (tgt := 505) d_Law_law_491 (by decide) (fun _ => ?_) (fun z => absurd (show (1 : Int32) = 0 from z) (by decide))
  refine ev_goto (tgt := 760) d_Law_law_505 (by decide) ?_
  refine l_endE hSc ⟨rfl, rfl, trivial⟩ ?_ ?_
  · show h.1 + 1 ≤ B1; omega
  · show h.2.1 + 6 ≤ B2; omega
theorem l_10 (hT : (gl_t G)[0]? = some (cI, .int)) (hE : gl_ex G s170) (hSc : gl_sc G b 6 xs) (F : fr cI str X h) (hm : mf cI cZ M h) (k1 : h.1 + 1 ≤ B1) (k2 : h.2.1 + 32 ≤ B2) : ev_E G m_Law_law 508 (lL b X M o) [] h (lz B1 B2) := by
  refine ev_aload_n d_Law_law_508 rfl rfl ?_
  refine ev_aload_n d_Law_law_509 rfl rfl ?_
  refine ev_iload d_Law_law_510 rfl ?_
  refine ev_iconst (v := 1) d_Law_law_512 (by decide) ?_
  refine ev_iadd d_Law_law_513 ?_
  refine ev_sld hSc (pk_in 1 6 (by decide)) d_Law_law_514 ?_
  refine ev_aload_n d_Law_law_515 rfl rfl ?_
  refine ev_callSH (ν := m_Law_type) (hs := hs_Law_type) [.ref X, .int _, .ref o] [] (List.mem_cons_of_mem _ cw_Law_law_77.1.1) (List.mem_cons_of_mem _ cw_Law_law_77.1.2.1) (List.mem_cons_of_mem _ cw_Law_law_77.1.2.2) (List.mem_cons_of_mem _ cw_Law_law_77.2) (gi_W cw_Law_law_77.2) (n := 3) (by decide +kernel) (by decide) d_Law_law_516 rfl (Nat.le_of_ble_eq_true rfl) (c_Law_type hE F _ o) (fun o1 h1 z => ?_)
  obtain ⟨v, rfl, rfl, rfl⟩ := z
  have hm1 : mf cI cZ M (hp_more h 1 6) := mf_of hm (fun _ _ _ => rfl)
  show ev_E G m_Law_law 519 (lL b X M o) [.int 1] _ _
  refine ev_istore d_Law_law_519 (by decide) ?_
  refine ev_aload_n d_Law_law_521 rfl rfl ?_
  refine ev_aload_n d_Law_law_522 rfl rfl ?_
  refine ev_iload d_Law_law_523 rfl ?_
  refine ev_iconst (v := 1) d_Law_law_525 (by decide) ?_
  refine ev_iadd d_Law_law_526 ?_
  refine ev_sld hSc (pk_in 1 6 (by decide)) d_Law_law_527 ?_
  refine ev_Vr (ci := 9) [.int _] [] ca_Law_law_79 d_Law_law_528 rfl ((mf_M hm1)) rfl (Nat.le_of_ble_eq_true rfl) (g_type hm1 _) (fun v h1 z => ?_)
  obtain ⟨rfl, rfl⟩ := z
  refine ev_istore d_Law_law_531 (by decide) ?_
  refine ev_aload_n d_Law_law_533 rfl rfl ?_
  refine ev_Vv (ci := 9) [] [] ca_Law_law_68 d_Law_law_534 rfl (mo_self) rfl (Nat.le_of_ble_eq_true rfl) (c_Model_thrown) ?_
  refine ev_iload d_Law_law_537 rfl ?_
  refine ev_icmp_eq (tgt := 544) d_Law_law_539 (by decide) (fun _ => ?_) (fun z => absurd rfl z)
  refine ev_iload d_Law_law_544 rfl ?_
  refine ev_if_ne (tgt := 568) d_Law_law_546 (by decide) (fun _ => ?_) (fun z => absurd (show (1 : Int32) = 0 from z) (by decide))
  refine ev_goto (tgt := 760) d_Law_law_568 (by decide) ?_
  refine l_endE hSc ⟨rfl, rfl, trivial⟩ ?_ ?_
  · show h.1 + 1 ≤ B1; omega
  · show h.2.1 + 6 ≤ B2; omega
theorem l_15 (hT : (gl_t G)[0]? = some (cI, .int)) (hSc : gl_sc G b 6 xs) (F : fr cI str X h) (hm : mf cI cZ M h) (k1 : h.1 ≤ B1) (k2 : h.2.1 ≤ B2) : ev_E G m_Law_law 707 (lL b X M o) [] h (lz B1 B2) := by
  refine ev_aload_n d_Law_law_707 rfl rfl ?_
  refine ev_aload_n d_Law_law_708 rfl rfl ?_
  refine ev_iload d_Law_law_709 rfl ?_
  refine ev_iconst (v := 1) d_Law_law_711 (by decide) ?_
  refine ev_iadd d_Law_law_712 ?_
  refine ev_sld hSc (pk_in 1 6 (by decide)) d_Law_law_713 ?_
  refine ev_if_eq (tgt := 721) d_Law_law_714 (by decide) (fun c1 => ?_) (fun c1 => ?_)
  · refine ev_iconst (v := 0) d_Law_law_721 (by decide) ?_
    refine ev_aload_n d_Law_law_722 rfl rfl ?_
    refine ev_iload d_Law_law_723 rfl ?_
    refine ev_iconst (v := 2) d_Law_law_725 (by decide) ?_
    refine ev_iadd d_Law_law_726 ?_
    refine ev_sld hSc (pk_in 2 6 (by decide)) d_Law_law_727 ?_
    refine ev_Vv (ci := 0) [.int 0, .int _] [] ca_Law_law_96 d_Law_law_728 rfl ((fr_X F)) rfl (Nat.le_of_ble_eq_true rfl) (f_parameterByte hT F 0 _) ?_
    refine ev_aload_n d_Law_law_731 rfl rfl ?_
    refine ev_aload_n d_Law_law_732 rfl rfl ?_
    refine ev_iload d_Law_law_733 rfl ?_
    refine ev_iconst (v := 1) d_Law_law_735 (by decide) ?_
    refine ev_iadd d_Law_law_736 ?_
    refine ev_sld hSc (pk_in 1 6 (by decide)) d_Law_law_737 ?_
    refine ev_if_eq (tgt := 745) d_Law_law_738 (by decide) (fun _ => ?_) (fun z => absurd c1 z)
    refine ev_iconst (v := 0) d_Law_law_745 (by decide) ?_
    refine ev_aload_n d_Law_law_746 rfl rfl ?_
    refine ev_iload d_Law_law_747 rfl ?_
    refine ev_iconst (v := 2) d_Law_law_749 (by decide) ?_
    refine ev_iadd d_Law_law_750 ?_
    refine ev_sld hSc (pk_in 2 6 (by decide)) d_Law_law_751 ?_
    refine ev_Vr (ci := 9) [.int 0, .int _] [.int (-1)] ca_Law_law_100 d_Law_law_752 rfl ((mf_M hm)) rfl (Nat.le_of_ble_eq_true rfl) (g_parameterByte hT hm false _) (fun v h1 z => ?_)
    obtain ⟨rfl, z1, z2⟩ := z
    refine ev_icmp_eq (tgt := 760) d_Law_law_755 (by decide) (fun _ => ?_) (fun z => absurd rfl z)
    exact l_endE hSc ⟨rfl, rfl, trivial⟩ (by omega) (by omega)
  · refine ev_iconst (v := 1) d_Law_law_717 (by decide) ?_
    refine ev_goto (tgt := 722) d_Law_law_718 (by decide) ?_
    refine ev_aload_n d_Law_law_722 rfl rfl ?_
    refine ev_iload d_Law_law_723 rfl ?_
    refine ev_iconst (v := 2) d_Law_law_725 (by decide) ?_
    refine ev_iadd d_Law_law_726 ?_
    refine ev_sld hSc (pk_in 2 6 (by decide)) d_Law_law_727 ?_
    refine ev_Vv (ci := 0) [.int 1, .int _] [] ca_Law_law_96 d_Law_law_728 rfl ((fr_X F)) rfl (Nat.le_of_ble_eq_true rfl) (f_parameterByte hT F 1 _) ?_
    refine ev_aload_n d_Law_law_731 rfl rfl ?_
    refine ev_aload_n d_Law_law_732 rfl rfl ?_
    refine ev_iload d_Law_law_733 rfl ?_
    refine ev_iconst (v := 1) d_Law_law_735 (by decide) ?_
    refine ev_iadd d_Law_law_736 ?_
    refine ev_sld hSc (pk_in 1 6 (by decide)) d_Law_law_737 ?_
    refine ev_if_eq (tgt := 745) d_Law_law_738 (by decide) (fun z => absurd z c1) (fun _ => ?_)
    refine ev_iconst (v := 1) d_Law_law_741 (by decide) ?_
    refine ev_goto (tgt := 746) d_Law_law_742 (by decide) ?_
    refine ev_aload_n d_Law_law_746 rfl rfl ?_
    refine ev_iload d_Law_law_747 rfl ?_
    refine ev_iconst (v := 2) d_Law_law_749 (by decide) ?_
    refine ev_iadd d_Law_law_750 ?_
    refine ev_sld hSc (pk_in 2 6 (by decide)) d_Law_law_751 ?_
    refine ev_Vr (ci := 9) [.int 1, .int _] [.int (-1)] ca_Law_law_100 d_Law_law_752 rfl ((mf_M hm)) rfl (Nat.le_of_ble_eq_true rfl) (g_parameterByte hT hm true _) (fun v h1 z => ?_)
    obtain ⟨rfl, z1, z2⟩ := z
    refine ev_icmp_eq (tgt := 760) d_Law_law_755 (by decide) (fun _ => ?_) (fun z => absurd rfl z)
    exact l_endE hSc ⟨rfl, rfl, trivial⟩ (by omega) (by omega)
/-- the loop, over a new class and a new reference -/
theorem l_loop (hT : (gl_t G)[0]? = some (cI, .int)) (hE : gl_ex G s170) (hL : L ≤ 6) (hSc : gl_sc G b L xs) (F : fr cI str X h) (hm : mf cI cZ M h) (hXM : X + 69 < M) (hM : M + 27 < h.1) (k1 : h.1 + 1 ≤ B1) (k2 : h.2.1 + 32 ≤ B2) : ev_E G m_Law_law 23 (lL b X M o) [] h (lz B1 B2) := by
  refine ev_iload d_Law_law_23 rfl ?_
  refine ev_aload_n d_Law_law_25 rfl rfl ?_
  refine ev_slen hSc d_Law_law_26 ?_
  refine ev_bipush (v := 6) d_Law_law_27 (by decide) ?_
  refine ev_isub d_Law_law_29 ?_
  refine ev_icmp_gt (tgt := 766) d_Law_law_30 (by decide) (fun _ => ?_) (fun c_30 => ?_)
  · refine ev_iconst (v := 1) d_Law_law_766 (by decide) ?_
    refine ev_zret d_Law_law_767 rfl rfl ?_
    exact ⟨rfl, by omega, by omega⟩
  · have hL6 : L = 6 := by
      rcases Nat.lt_or_ge L 6 with q | q
      · exact absurd (show nI L - nI 6 < 0 from pk_sneg (by decide) q) c_30
      · omega
    subst hL6
    refine ev_aload_n d_Law_law_33 rfl rfl ?_
    refine ev_iload d_Law_law_34 rfl ?_
    refine ev_sld hSc (pk_in 0 6 (by decide)) d_Law_law_36 ?_
    refine ev_bipush (v := 15) d_Law_law_37 (by decide) ?_
    refine ev_iand d_Law_law_39 ?_
    obtain ⟨j, hj, ej⟩ := pk_andE (xs (nI 0).toNatClampNeg) (m := 15) 4 (by decide)
    rw [ej]
    have k1' : h.1 ≤ B1 := by omega
    have k2' : h.2.1 ≤ B2 := by omega
    rcases (show j = 0 ∨ j = 1 ∨ j = 2 ∨ j = 3 ∨ j = 4 ∨ j = 5 ∨ j = 6 ∨ j = 7 ∨ j = 8 ∨ j = 9 ∨ j = 10 ∨ j = 11 ∨ j = 12 ∨ j = 13 ∨ j = 14 ∨ j = 15 by omega) with rfl | rfl | rfl | rfl | rfl | rfl | rfl | rfl | rfl | rfl | rfl | rfl | rfl | rfl | rfl | rfl
    · exact ev_tableIn (off := 80) (tgt := 120) d_Law_law_40 (by decide) (by decide) (by decide) (by decide) (l_0 hT hSc F hm hXM hM k1 k2)
    · exact ev_tableIn (off := 151) (tgt := 191) d_Law_law_40 (by decide) (by decide) (by decide) (by decide) (l_1 hT hSc F hm hXM hM k1 k2)
    · exact ev_tableIn (off := 176) (tgt := 216) d_Law_law_40 (by decide) (by decide) (by decide) (by decide) (l_2 hT hSc F hm k1' k2')
    · exact ev_tableIn (off := 189) (tgt := 229) d_Law_law_40 (by decide) (by decide) (by decide) (by decide) (l_3 hT hSc F hm k1' k2')
    · exact ev_tableIn (off := 202) (tgt := 242) d_Law_law_40 (by decide) (by decide) (by decide) (by decide) (l_4 hT hSc F hm k1' k2')
    · exact ev_tableIn (off := 215) (tgt := 255) d_Law_law_40 (by decide) (by decide) (by decide) (by decide) (l_5 hT hSc F hm k1' k2')
    · exact ev_tableIn (off := 252) (tgt := 292) d_Law_law_40 (by decide) (by decide) (by decide) (by decide) (l_6 hT hSc F hm k1' k2')
    · exact ev_tableIn (off := 301) (tgt := 341) d_Law_law_40 (by decide) (by decide) (by decide) (by decide) (l_7 hT hE hSc F hm k1 k2)
    · exact ev_tableIn (off := 357) (tgt := 397) d_Law_law_40 (by decide) (by decide) (by decide) (by decide) (l_8 hT hE hSc F hm k1 k2)
    · exact ev_tableIn (off := 413) (tgt := 453) d_Law_law_40 (by decide) (by decide) (by decide) (by decide) (l_9 hT hE hSc F hm k1 k2)
    · exact ev_tableIn (off := 468) (tgt := 508) d_Law_law_40 (by decide) (by decide) (by decide) (by decide) (l_10 hT hE hSc F hm k1 k2)
    · exact ev_tableIn (off := 531) (tgt := 571) d_Law_law_40 (by decide) (by decide) (by decide) (by decide) (l_11 hT hSc F hm k1' k2')
    · exact ev_tableIn (off := 568) (tgt := 608) d_Law_law_40 (by decide) (by decide) (by decide) (by decide) (l_12 hT hSc F hm k1' k2')
    · exact ev_tableIn (off := 605) (tgt := 645) d_Law_law_40 (by decide) (by decide) (by decide) (by decide) (l_13 hT hSc F hm k1' k2')
    · exact ev_tableIn (off := 654) (tgt := 694) d_Law_law_40 (by decide) (by decide) (by decide) (by decide) (l_14 hT hSc F hm k1' k2')
    · exact ev_tableIn (off := 667) (tgt := 707) d_Law_law_40 (by decide) (by decide) (by decide) (by decide) (l_15 hT hSc F hm k1' k2')
/-- the law, from its entry -/
theorem l_law (hT : (gl_t G)[0]? = some (cI, .int)) (hZ : (gl_t G)[1]? = some (cZ, .boolean)) (hJ : (gl_t G)[2]? = some (cJ, .long)) (hS : gl_sg G str) (hE : gl_ex G s170) (hL : L ≤ 6) (hSc : gl_sc G b L xs) (h : hp_T) : ev_E G m_Law_law 0 [(0, .ref b)] [] h (lz (h.1 + 200) (h.2.1 + 60000)) := by
  refine ev_new (fn_Law_8 rfl rfl) d_Law_law_0 ?_
  refine ev_dup d_Law_law_3 rfl ?_
  refine ev_In [] [.ref h.1] ca_Law_law_26 d_Law_law_4 rfl (Nat.le_of_ble_eq_true rfl) (c_Mail_init hT hS (hp_add h 9 (.inr (0, [.null, .null, .null, .null, .null, .null, .null, .null, .null]))) h.1 rfl (hp_add_self _ _ _)) (fun h1 z => ?_)
  obtain ⟨x1, x2, x3, x4⟩ := z
  have x1' : h1.1 = h.1 + 1 + 69 := x1
  have x2' : h1.2.1 = h.2.1 + 9 + 519 := x2
  refine ev_astore_n d_Law_law_7 rfl (by decide) ?_
  refine ev_new (fn_Law_27 rfl rfl) d_Law_law_8 ?_
  refine ev_dup d_Law_law_11 rfl ?_
  refine ev_In [] [.ref h1.1] ca_Law_law_29 d_Law_law_12 rfl (Nat.le_of_ble_eq_true rfl) (c_Model_init hT hZ _ h1.1 rfl (hp_add_self _ _ _)) (fun h2 y => ?_)
  have hm := mo_new y
  obtain ⟨y1, y2, y3, y4⟩ := y
  have y1' : h2.1 = h1.1 + 1 + 27 := y1
  have y2' : h2.2.1 = h1.2.1 + 45 + 55494 := y2
  refine ev_astore_n d_Law_law_15 rfl (by decide) ?_
  refine ev_iconst (v := 1) d_Law_law_16 (by decide) ?_
  refine ev_newa (atype := .long) (t0 := 2) (N := 1) (cA := cJ) (a0 := (1, .inr (.inl (fun _ => 0)))) (fun _ => rfl) (List.mem_cons_of_mem _ tw_1371) hJ (by decide) (by decide) (by decide) d_Law_law_17 ?_
  refine ev_astore_n d_Law_law_19 rfl (by decide) ?_
  refine ev_iconst (v := 0) d_Law_law_20 (by decide) ?_
  refine ev_istore d_Law_law_21 (by decide) ?_
  refine ev_as (lL b h.1 h1.1 h2.1) ⟨rfl, rfl, rfl, rfl, rfl, trivial⟩ ?_
  have F : fr cI str h.1 (hp_add h2 1 (.inl (cJ, 1, .inr (.inl (fun _ => 0))))) := by
    refine ⟨fun k hk => ?_, ?_⟩
    · rw [hp_add_ne (by omega), y4 _ (by omega), hp_add_ne (by omega)]
      exact x3 k hk
    · show h.1 + 69 < h2.1 + 1
      omega
  refine l_loop hT hE hL hSc F (mf_of hm (fun q q1 q2 => hp_add_ne (by omega))) ?_ ?_ ?_ ?_
  · omega
  · show h1.1 + 27 < h2.1 + 1; omega
  · show h2.1 + 1 + 1 ≤ h.1 + 200; omega
  · show h2.2.1 + 1 + 32 ≤ h.2.1 + 60000; omega
end LAW
