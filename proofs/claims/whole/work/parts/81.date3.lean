section DATE3
variable {G : gl_G} {cI cZ : ClassId} {h0 : hp_T} {M : Nat} {R : Nat → Nat → Int32} {W : Wds}
/-- what date leaves, from a place within it -/
abbrev dP (cI cZ : ClassId) (h0 : hp_T) (M : Nat) (R : Nat → Nat → Int32) (I : Nat → Int32) : Option Value → hp_T → Prop := cr (fun v h' => (∃ x : Int64, v = .long x) ∧ ∃ I', h' = mo_ov cI cZ h0 M I' R ∧ sm [44] I I')
theorem dP_up {I : Nat → Int32} {v : Int32} {o : Option Value} {h' : hp_T} (h : dP cI cZ h0 M R (upd I 44 v) o h') : dP cI cZ h0 M R I o h' := by
  obtain ⟨x, rfl, h1, I', rfl, h2⟩ := h
  exact ⟨x, rfl, h1, I', rfl, sm_tr (sm_upd (by decide)) h2⟩
theorem nxs {w c : Nat} (hl : W.length ≤ 1501) (hw : w ≤ c) (hc : 1501 ≤ c) : nx W (w + 1) W.length ≤ c + 1 := by
  rcases Nat.lt_or_ge (w + 1) W.length with q | q
  · have := nx_le W (a := w + 1) (b := W.length) (by omega) (Nat.le_refl _); omega
  · rw [nx_out W q]; omega
theorem l_date352 (hT : (gl_t G)[0]? = some (cI, .int)) {I : Nat → Int32} (hW : wOk W I R) (hl : W.length ≤ 1501) (hb : (wB W).length ≤ 1501) {w : Nat} (hw : I 44 = nI w) (hw2 : w ≤ 1600) {n : Int64} {d hh mi s : Int32} {mo y : Nat} (hmo : mo ≤ 12) (hy : y ≤ 2999) :
    ev_E G m_Model_date 352 [(0, .ref M), (2, .long n), (5, .int d), (6, .int (nI mo)), (7, .int (nI y)), (8, .int hh), (10, .int mi), (11, .int s)] [] (mo_ov cI cZ h0 M I R) (dP cI cZ h0 M R I) := by
  refine ev_aload_n d_Model_date_352 rfl rfl ?_
  refine ev_iload d_Model_date_353 rfl ?_
  refine ev_iload d_Model_date_355 rfl ?_
  refine ev_iload d_Model_date_357 rfl ?_
  refine mo_Vr [.int d, .int (nI mo), .int (nI y)] [] ca_Model_date_334 d_Model_date_359 rfl (Nat.le_of_ble_eq_true rfl) (c_Model_dayNumber hmo hy) (fun v h1 z => ?_)
  obtain ⟨⟨x, rfl⟩, rfl⟩ := z
  refine ev_ldc2 (v := 86400) (List.mem_cons_of_mem _ tw_1317) d_Model_date_362 ?_
  refine ev_lmul d_Model_date_365 ?_
  refine ev_ldc2 (v := 3600) (List.mem_cons_of_mem _ tw_1318) d_Model_date_366 ?_
  refine ev_iload d_Model_date_369 rfl ?_
  refine ev_i2l d_Model_date_371 ?_
  refine ev_lmul d_Model_date_372 ?_
  refine ev_ladd d_Model_date_373 ?_
  refine ev_ldc2 (v := 60) (List.mem_cons_of_mem _ tw_1319) d_Model_date_374 ?_
  refine ev_iload d_Model_date_377 rfl ?_
  refine ev_i2l d_Model_date_379 ?_
  refine ev_lmul d_Model_date_380 ?_
  refine ev_ladd d_Model_date_381 ?_
  refine ev_iload d_Model_date_382 rfl ?_
  refine ev_i2l d_Model_date_384 ?_
  refine ev_ladd d_Model_date_385 ?_
  refine ev_aload_n d_Model_date_386 rfl rfl ?_
  refine ev_aload_n d_Model_date_387 rfl rfl ?_
  refine mo_get (fa_Model_265 rfl rfl) d_Model_date_388 rfl ?_
  rw [hw]
  refine mo_Vr [.int (nI w)] [.long _] ca_Model_date_344 d_Model_date_391 rfl (Nat.le_of_ble_eq_true rfl) (c_Model_zoneOf hT hW hl hb (by omega)) (fun v h1 z => ?_)
  obtain ⟨⟨u, rfl⟩, rfl⟩ := z
  refine ev_i2l d_Model_date_394 ?_
  refine ev_lsub d_Model_date_395 ?_
  refine ev_lret d_Model_date_396 rfl ?_
  exact ⟨_, rfl, ⟨_, rfl⟩, I, rfl, sm_rf _ _⟩
theorem l_date345 (hT : (gl_t G)[0]? = some (cI, .int)) {I : Nat → Int32} (hW : wOk W I R) (hl : W.length ≤ 1501) (hb : (wB W).length ≤ 1501) {w : Nat} (hw : I 44 = nI w) (hw2 : w ≤ 1600) {n : Int64} {d hh mi s : Int32} {mo y : Nat} (hmo : mo ≤ 12) (hy : y ≤ 2999) :
    ev_E G m_Model_date 345 [(0, .ref M), (2, .long n), (5, .int d), (6, .int (nI mo)), (7, .int (nI y)), (8, .int hh), (10, .int mi), (11, .int s)] [] (mo_ov cI cZ h0 M I R) (dP cI cZ h0 M R I) := by
  refine ev_iload d_Model_date_345 rfl ?_
  refine ev_if_ge (tgt := 352) d_Model_date_347 (by decide) (fun c_347 => ?_) (fun c_347 => ?_)
  · exact l_date352 hT hW hl hb hw hw2 hmo hy
  · refine ev_lload_n d_Model_date_350 rfl rfl ?_
    refine ev_lret d_Model_date_351 rfl ?_
    exact ⟨_, rfl, ⟨_, rfl⟩, I, rfl, sm_rf _ _⟩
theorem l_date302 (hT : (gl_t G)[0]? = some (cI, .int)) {I : Nat → Int32} (hW : wOk W I R) (hl : W.length ≤ 1501) (hb : (wB W).length ≤ 1501) {w : Nat} (hw : I 44 = nI w) (hw2 : w ≤ 1590) {n : Int64} {d hh mi : Int32} {mo y : Nat} (hmo : mo ≤ 12) (hy : y ≤ 2999) :
    ev_E G m_Model_date 302 [(0, .ref M), (2, .long n), (5, .int d), (6, .int (nI mo)), (7, .int (nI y)), (8, .int hh), (10, .int mi)] [] (mo_ov cI cZ h0 M I R) (dP cI cZ h0 M R I) := by
  have no := fun s => l_date345 (G := G) (cZ := cZ) (h0 := h0) (M := M) (n := n) (d := d) (hh := hh) (mi := mi) (s := s) hT hW hl hb hw (show w ≤ 1600 by omega) hmo hy
  refine ev_iconst (v := 0) d_Model_date_302 (by decide) ?_
  refine ev_istore d_Model_date_303 (by decide) ?_
  refine ev_aload_n d_Model_date_305 rfl rfl ?_
  refine mo_get (fa_Model_265 rfl rfl) d_Model_date_306 rfl ?_
  rw [hw]
  refine ev_aload_n d_Model_date_309 rfl rfl ?_
  refine mo_get (fa_Model_149 rfl rfl) d_Model_date_310 rfl ?_
  rw [hW.1]
  refine ev_icmp_ge (tgt := 345) d_Model_date_313 (by decide) (fun c_313 => ?_) (fun c_313 => ?_)
  · exact no 0
  · have hlt : w < W.length := by
      rcases Nat.lt_or_ge w W.length with q | q
      · exact q
      · exact absurd (nI_le q (by omega)) c_313
    have qk : W[w]? = some W[w] := List.getElem?_eq_getElem hlt
    generalize W[w] = wd at qk
    refine ev_aload_n d_Model_date_316 rfl rfl ?_
    refine ev_aload_n d_Model_date_317 rfl rfl ?_
    refine mo_get (fa_Model_265 rfl rfl) d_Model_date_318 rfl ?_
    rw [hw]
    refine ev_bipush (v := 58) d_Model_date_321 (by decide) ?_
    refine mo_Vv [.int (nI w), .int 58] [] ca_Model_date_200 d_Model_date_323 rfl (Nat.le_of_ble_eq_true rfl) (c_Model_is hT hW hl qk 58) ?_
    refine ev_if_eq (tgt := 345) d_Model_date_326 (by decide) (fun c_326 => ?_) (fun c_326 => ?_)
    · exact no 0
    · refine ev_aload_n d_Model_date_329 rfl rfl ?_
      refine mo_Vn [] [] ca_Model_date_322 d_Model_date_330 rfl (Nat.le_of_ble_eq_true rfl) (c_Model_step hT hW hl hw (by omega)) (fun h1 z => ?_)
      subst z
      have hn1 := nxs (W := W) (c := 1590) hl (show w ≤ 1590 by omega) (by decide)
      have hW1 : wOk W (upd I 44 (nI (nx W (w + 1) W.length))) R := wOk_I hW rfl rfl
      refine ev_aload_n d_Model_date_333 rfl rfl ?_
      refine ev_bipush (v := 61) d_Model_date_334 (by decide) ?_
      refine mo_Vr [.int 61] [] ca_Model_date_331 d_Model_date_336 rfl (Nat.le_of_ble_eq_true rfl) (c_Model_two (w := nx W (w + 1) W.length) hT hW1 hl hb rfl (by omega) 61) (fun v h1 z => ?_)
      obtain ⟨⟨u, rfl⟩, rfl⟩ := z
      refine ev_istore d_Model_date_339 (by decide) ?_
      refine ev_aload_n d_Model_date_341 rfl rfl ?_
      refine mo_Vn [] [] ca_Model_date_322 d_Model_date_342 rfl (Nat.le_of_ble_eq_true rfl) (c_Model_step (w := nx W (w + 1) W.length) hT hW1 hl rfl (by omega)) (fun h1 z => ?_)
      subst z
      rw [upd_upd]
      have hn2 := nxs (W := W) (c := 1591) hl hn1 (by decide)
      exact ev_to (l_date345 (I := upd I 44 (nI (nx W (nx W (w + 1) W.length + 1) W.length))) (w := nx W (nx W (w + 1) W.length + 1) W.length) hT (wOk_I hW rfl rfl) hl hb (by simp [upd]) (by omega) hmo hy) (fun _ _ q => dP_up q)
theorem l_date226 (hT : (gl_t G)[0]? = some (cI, .int)) {I : Nat → Int32} (hW : wOk W I R) (hl : W.length ≤ 1501) (hb : (wB W).length ≤ 1501) {w : Nat} (hw : I 44 = nI w) (hw2 : w ≤ 1560) {n : Int64} {d : Int32} {mo y : Nat} (hmo : mo ≤ 12) (hy : y ≤ 2999) :
    ev_E G m_Model_date 226 [(0, .ref M), (2, .long n), (5, .int d), (6, .int (nI mo)), (7, .int (nI y))] [] (mo_ov cI cZ h0 M I R) (dP cI cZ h0 M R I) := by
  refine ev_aload_n d_Model_date_226 rfl rfl ?_
  refine ev_bipush (v := 24) d_Model_date_227 (by decide) ?_
  refine mo_Vr [.int 24] [] ca_Model_date_331 d_Model_date_229 rfl (Nat.le_of_ble_eq_true rfl) (c_Model_two hT hW hl hb hw (by omega) 24) (fun v h1 z => ?_)
  obtain ⟨⟨hh, rfl⟩, rfl⟩ := z
  refine ev_istore d_Model_date_232 (by decide) ?_
  refine ev_aload_n d_Model_date_234 rfl rfl ?_
  refine mo_Vn [] [] ca_Model_date_322 d_Model_date_235 rfl (Nat.le_of_ble_eq_true rfl) (c_Model_step hT hW hl hw (by omega)) (fun h1 z => ?_)
  subst z
  have hn1 := nxs (W := W) (c := 1560) hl hw2 (by decide)
  have hW1 : wOk W (upd I 44 (nI (nx W (w + 1) W.length))) R := wOk_I hW rfl rfl
  generalize nx W (w + 1) W.length = w1 at hn1 hW1 ⊢
  have h441 : (upd I 44 (nI w1)) 44 = nI w1 := by simp [upd]
  -- from 267 on
  have on : ∀ cl : Int32, ev_E G m_Model_date 267 [(0, .ref M), (2, .long n), (5, .int d), (6, .int (nI mo)), (7, .int (nI y)), (8, .int hh)] [.int cl] (mo_ov cI cZ h0 M (upd I 44 (nI w1)) R) (dP cI cZ h0 M R I) := by
    intro cl
    refine ev_istore d_Model_date_267 (by decide) ?_
    refine ev_aload_n d_Model_date_269 rfl rfl ?_
    refine mo_Vn [] [] ca_Model_date_322 d_Model_date_270 rfl (Nat.le_of_ble_eq_true rfl) (c_Model_step hT hW1 hl h441 (by omega)) (fun h1 z => ?_)
    subst z
    rw [upd_upd]
    have hn2 := nxs (W := W) (c := 1561) hl hn1 (by decide)
    generalize nx W (w1 + 1) W.length = w2 at hn2 ⊢
    have hW2 : wOk W (upd I 44 (nI w2)) R := wOk_I hW rfl rfl
    have h442 : (upd I 44 (nI w2)) 44 = nI w2 := by simp [upd]
    refine ev_aload_n d_Model_date_273 rfl rfl ?_
    refine ev_bipush (v := 60) d_Model_date_274 (by decide) ?_
    refine mo_Vr [.int 60] [] ca_Model_date_331 d_Model_date_276 rfl (Nat.le_of_ble_eq_true rfl) (c_Model_two hT hW2 hl hb h442 (by omega) 60) (fun v h1 z => ?_)
    obtain ⟨⟨mi, rfl⟩, rfl⟩ := z
    refine ev_istore d_Model_date_279 (by decide) ?_
    refine ev_aload_n d_Model_date_281 rfl rfl ?_
    refine mo_Vn [] [] ca_Model_date_322 d_Model_date_282 rfl (Nat.le_of_ble_eq_true rfl) (c_Model_step hT hW2 hl h442 (by omega)) (fun h1 z => ?_)
    subst z
    rw [upd_upd]
    have hn3 := nxs (W := W) (c := 1562) hl hn2 (by decide)
    generalize nx W (w2 + 1) W.length = w3 at hn3 ⊢
    have hW3 : wOk W (upd I 44 (nI w3)) R := wOk_I hW rfl rfl
    have h443 : (upd I 44 (nI w3)) 44 = nI w3 := by simp [upd]
    refine ev_to (Z := dP cI cZ h0 M R (upd I 44 (nI w3))) ?_ (fun _ _ q => dP_up q)
    refine ev_as [(0, .ref M), (2, .long n), (5, .int d), (6, .int (nI mo)), (7, .int (nI y)), (8, .int hh), (9, .int cl), (10, .int mi)] ⟨rfl, rfl, rfl, rfl, rfl, rfl, rfl, rfl, trivial⟩ ?_
    have none_ : ev_E G m_Model_date 300 [(0, .ref M), (2, .long n), (5, .int d), (6, .int (nI mo)), (7, .int (nI y)), (8, .int hh), (9, .int cl), (10, .int mi)] [] (mo_ov cI cZ h0 M (upd I 44 (nI w3)) R) (dP cI cZ h0 M R (upd I 44 (nI w3))) := by
      refine ev_lload_n d_Model_date_300 rfl rfl ?_
      refine ev_lret d_Model_date_301 rfl ?_
      exact ⟨_, rfl, ⟨_, rfl⟩, _, rfl, sm_rf _ _⟩
    refine ev_iload d_Model_date_285 rfl ?_
    refine ev_if_lt (tgt := 300) d_Model_date_287 (by decide) (fun c_287 => ?_) (fun c_287 => ?_)
    · exact none_
    · refine ev_iload d_Model_date_290 rfl ?_
      refine ev_if_eq (tgt := 300) d_Model_date_292 (by decide) (fun c_292 => ?_) (fun c_292 => ?_)
      · exact none_
      · refine ev_iload d_Model_date_295 rfl ?_
        refine ev_if_ge (tgt := 302) d_Model_date_297 (by decide) (fun c_297 => ?_) (fun c_297 => ?_)
        · refine ev_as [(0, .ref M), (2, .long n), (5, .int d), (6, .int (nI mo)), (7, .int (nI y)), (8, .int hh), (10, .int mi)] ⟨rfl, rfl, rfl, rfl, rfl, rfl, rfl, trivial⟩ ?_
          exact l_date302 hT hW3 hl hb h443 (by omega) hmo hy
        · exact none_
  refine ev_aload_n d_Model_date_238 rfl rfl ?_
  refine mo_get (fa_Model_265 rfl rfl) d_Model_date_239 rfl ?_
  rw [h441]
  refine ev_aload_n d_Model_date_242 rfl rfl ?_
  refine mo_get (fa_Model_149 rfl rfl) d_Model_date_243 rfl ?_
  rw [hW1.1]
  refine ev_icmp_ge (tgt := 266) d_Model_date_246 (by decide) (fun c_246 => ?_) (fun c_246 => ?_)
  · refine ev_iconst (v := 0) d_Model_date_266 (by decide) ?_
    exact on _
  · have hlt : w1 < W.length := by
      rcases Nat.lt_or_ge w1 W.length with q | q
      · exact q
      · exact absurd (nI_le q (by omega)) c_246
    have qk : W[w1]? = some W[w1] := List.getElem?_eq_getElem hlt
    generalize W[w1] = wd at qk
    refine ev_aload_n d_Model_date_249 rfl rfl ?_
    refine ev_aload_n d_Model_date_250 rfl rfl ?_
    refine mo_get (fa_Model_265 rfl rfl) d_Model_date_251 rfl ?_
    rw [h441]
    refine ev_bipush (v := 58) d_Model_date_254 (by decide) ?_
    refine mo_Vv [.int (nI w1), .int 58] [] ca_Model_date_200 d_Model_date_256 rfl (Nat.le_of_ble_eq_true rfl) (c_Model_is hT hW1 hl qk 58) ?_
    refine ev_if_eq (tgt := 266) d_Model_date_259 (by decide) (fun c_259 => ?_) (fun c_259 => ?_)
    · refine ev_iconst (v := 0) d_Model_date_266 (by decide) ?_
      exact on _
    · refine ev_iconst (v := 1) d_Model_date_262 (by decide) ?_
      refine ev_goto (tgt := 267) d_Model_date_263 (by decide) ?_
      exact on _
theorem l_date125 (hT : (gl_t G)[0]? = some (cI, .int)) {I : Nat → Int32} (hW : wOk W I R) (hl : W.length ≤ 1501) (hb : (wB W).length ≤ 1501) {w : Nat} (hw : I 44 = nI w) (hw2 : w ≤ 1510) {n : Int64} :
    ev_E G m_Model_date 125 [(0, .ref M), (2, .long n)] [] (mo_ov cI cZ h0 M I R) (dP cI cZ h0 M R I) := by
  have on : ∀ d : Int32, ev_E G m_Model_date 150 [(0, .ref M), (2, .long n)] [.int d] (mo_ov cI cZ h0 M I R) (dP cI cZ h0 M R I) := by
    intro d
    refine ev_istore d_Model_date_150 (by decide) ?_
    refine ev_aload_n d_Model_date_152 rfl rfl ?_
    refine mo_Vn [] [] ca_Model_date_322 d_Model_date_153 rfl (Nat.le_of_ble_eq_true rfl) (c_Model_step hT hW hl hw (by omega)) (fun h1 z => ?_)
    subst z
    have hn1 := nxs (W := W) (c := 1510) hl hw2 (by decide)
    generalize nx W (w + 1) W.length = w1 at hn1 ⊢
    have hW1 : wOk W (upd I 44 (nI w1)) R := wOk_I hW rfl rfl
    have h441 : (upd I 44 (nI w1)) 44 = nI w1 := by simp [upd]
    refine ev_aload_n d_Model_date_156 rfl rfl ?_
    refine ev_aload_n d_Model_date_157 rfl rfl ?_
    refine mo_get (fa_Model_265 rfl rfl) d_Model_date_158 rfl ?_
    rw [h441]
    refine mo_Vr [.int (nI w1)] [] ca_Model_date_325 d_Model_date_161 rfl (Nat.le_of_ble_eq_true rfl) (c_Model_monthOf hT hW1 hl hb (by omega)) (fun v h1 z => ?_)
    obtain ⟨⟨mo, hmo, rfl⟩, rfl⟩ := z
    refine ev_istore d_Model_date_164 (by decide) ?_
    refine ev_aload_n d_Model_date_166 rfl rfl ?_
    refine mo_Vn [] [] ca_Model_date_322 d_Model_date_167 rfl (Nat.le_of_ble_eq_true rfl) (c_Model_step hT hW1 hl h441 (by omega)) (fun h1 z => ?_)
    subst z
    rw [upd_upd]
    have hn2 := nxs (W := W) (c := 1511) hl hn1 (by decide)
    generalize nx W (w1 + 1) W.length = w2 at hn2 ⊢
    have hW2 : wOk W (upd I 44 (nI w2)) R := wOk_I hW rfl rfl
    have h442 : (upd I 44 (nI w2)) 44 = nI w2 := by simp [upd]
    refine ev_aload_n d_Model_date_170 rfl rfl ?_
    refine ev_aload_n d_Model_date_171 rfl rfl ?_
    refine mo_get (fa_Model_265 rfl rfl) d_Model_date_172 rfl ?_
    rw [h442]
    refine mo_Vr [.int (nI w2)] [] ca_Model_date_328 d_Model_date_175 rfl (Nat.le_of_ble_eq_true rfl) (c_Model_yearOf hT hW2 hl hb (by omega)) (fun v h1 z => ?_)
    obtain ⟨⟨y, rfl⟩, rfl⟩ := z
    refine ev_istore d_Model_date_178 (by decide) ?_
    refine ev_aload_n d_Model_date_180 rfl rfl ?_
    refine mo_Vn [] [] ca_Model_date_322 d_Model_date_181 rfl (Nat.le_of_ble_eq_true rfl) (c_Model_step hT hW2 hl h442 (by omega)) (fun h1 z => ?_)
    subst z
    rw [upd_upd]
    have hn3 := nxs (W := W) (c := 1512) hl hn2 (by decide)
    generalize nx W (w2 + 1) W.length = w3 at hn3 ⊢
    have hW3 : wOk W (upd I 44 (nI w3)) R := wOk_I hW rfl rfl
    have h443 : (upd I 44 (nI w3)) 44 = nI w3 := by simp [upd]
    refine ev_to (Z := dP cI cZ h0 M R (upd I 44 (nI w3))) ?_ (fun _ _ q => dP_up q)
    refine ev_as [(0, .ref M), (2, .long n), (5, .int d), (6, .int (nI mo)), (7, .int y)] ⟨rfl, rfl, rfl, rfl, rfl, trivial⟩ ?_
    have none_ : ev_E G m_Model_date 224 [(0, .ref M), (2, .long n), (5, .int d), (6, .int (nI mo)), (7, .int y)] [] (mo_ov cI cZ h0 M (upd I 44 (nI w3)) R) (dP cI cZ h0 M R (upd I 44 (nI w3))) := by
      refine ev_lload_n d_Model_date_224 rfl rfl ?_
      refine ev_lret d_Model_date_225 rfl ?_
      exact ⟨_, rfl, ⟨_, rfl⟩, _, rfl, sm_rf _ _⟩
    refine ev_iload d_Model_date_184 rfl ?_
    refine ev_iconst (v := 1) d_Model_date_186 (by decide) ?_
    refine ev_icmp_lt (tgt := 224) d_Model_date_187 (by decide) (fun c_187 => ?_) (fun c_187 => ?_)
    · exact none_
    · refine ev_iload d_Model_date_190 rfl ?_
      refine ev_iconst (v := 1) d_Model_date_192 (by decide) ?_
      refine ev_icmp_lt (tgt := 224) d_Model_date_193 (by decide) (fun c_193 => ?_) (fun c_193 => ?_)
      · exact none_
      · refine ev_iload d_Model_date_196 rfl ?_
        refine ev_sipush (v := 1900) d_Model_date_198 (by decide) ?_
        refine ev_icmp_lt (tgt := 224) d_Model_date_201 (by decide) (fun c_201 => ?_) (fun c_201 => ?_)
        · exact none_
        · refine ev_iload d_Model_date_204 rfl ?_
          refine ev_sipush (v := 2999) d_Model_date_206 (by decide) ?_
          refine ev_icmp_gt (tgt := 224) d_Model_date_209 (by decide) (fun c_209 => ?_) (fun c_209 => ?_)
          · exact none_
          · have hy0 : ¬ y < 0 := fun z => c_201 (Int32.lt_trans z (by decide))
            obtain ⟨yy, hyy, rfl⟩ := nI_of hy0
            have hy9 : yy ≤ 2999 := by
              rcases Nat.lt_or_ge 2999 yy with q | q
              · exact absurd (nI_lt q hyy) c_209
              · exact q
            refine ev_iload d_Model_date_212 rfl ?_
            refine ev_iload d_Model_date_214 rfl ?_
            refine ev_iload d_Model_date_216 rfl ?_
            refine ev_Sr [.int (nI mo), .int (nI yy)] [.int d] ca_Model_date_315 d_Model_date_218 rfl (Nat.le_of_ble_eq_true rfl) (c_Model_daysOf (nI mo) (nI yy)) (fun v h1 z => ?_)
            obtain ⟨⟨u, rfl⟩, rfl⟩ := z
            refine ev_icmp_le (tgt := 226) d_Model_date_221 (by decide) (fun c_221 => ?_) (fun c_221 => ?_)
            · exact l_date226 hT hW3 hl hb h443 (by omega) hmo hy9
            · exact none_
  refine ev_aload_n d_Model_date_125 rfl rfl ?_
  refine ev_aload_n d_Model_date_126 rfl rfl ?_
  refine mo_get (fa_Model_265 rfl rfl) d_Model_date_127 rfl ?_
  rw [hw]
  refine ev_iconst (v := 1) d_Model_date_130 (by decide) ?_
  refine ev_iconst (v := 2) d_Model_date_131 (by decide) ?_
  refine mo_Vr [.int (nI w), .int 1, .int 2] [] ca_Model_date_294 d_Model_date_132 rfl (Nat.le_of_ble_eq_true rfl) (c_Model_isDigits hT hW hl hb (by omega) 1 2) (fun v h1 z => ?_)
  obtain ⟨⟨x, rfl, hx⟩, rfl⟩ := z
  refine ev_if_eq (tgt := 149) d_Model_date_135 (by decide) (fun c_135 => ?_) (fun c_135 => ?_)
  · refine ev_iconst (v := 0) d_Model_date_149 (by decide) ?_
    exact on _
  · refine ev_aload_n d_Model_date_138 rfl rfl ?_
    refine ev_aload_n d_Model_date_139 rfl rfl ?_
    refine mo_get (fa_Model_265 rfl rfl) d_Model_date_140 rfl ?_
    rw [hw]
    refine mo_Vr [.int (nI w)] [] ca_Model_date_297 d_Model_date_143 rfl (Nat.le_of_ble_eq_true rfl) (c_Model_number hT hW hl hb (hx c_135)) (fun v h1 z => ?_)
    obtain ⟨⟨u, rfl⟩, rfl⟩ := z
    refine ev_goto (tgt := 150) d_Model_date_146 (by decide) ?_
    exact on _
/-- date: of a field it answers a long -/
theorem c_Model_date (hT : (gl_t G)[0]? = some (cI, .int)) {I : Nat → Int32} {F : Flds} (hF : flds F R) (hI4 : I 4 = nI F.length) (hF40 : F.length ≤ 40) (hk : (fK F).length ≤ 1501) (f : Int32) : ct_E G m_Model_date [.ref M, .int f] (mo_ov cI cZ h0 M I R) (cr (fun v h' => (sp_isField (nI F.length) f = 0 ∧ v = .long 0 ∧ h' = mo_ov cI cZ h0 M (upd I 0 1) R) ∨ ∃ (j : Nat) (q : List Int32 × List Int32), f = nI j ∧ F[j]? = some q ∧ (∃ x : Int64, v = .long x) ∧ ∃ I' R', h' = mo_ov cI cZ h0 M I' R' ∧ I' 0 = 0 ∧ sm [0, 12, 18, 39, 40, 41, 44] I I' ∧ sm [8, 9, 10, 11, 12] R R')) := by
  refine ct_of (ws' := tb_all) rfl rfl (Nat.le_of_ble_eq_true rfl) ?_
  refine ev_ldc2 (v := (-9223372036854775808)) (List.mem_cons_of_mem _ tw_1251) d_Model_date_0 ?_
  refine ev_lstore_n d_Model_date_3 rfl (by decide) ?_
  refine ev_aload_n d_Model_date_4 rfl rfl ?_
  refine ev_aload_n d_Model_date_5 rfl rfl ?_
  refine ev_iload_n d_Model_date_6 rfl rfl ?_
  refine mo_Vv [.int f] [.ref M] ca_Model_date_137 d_Model_date_7 rfl (Nat.le_of_ble_eq_true rfl) (c_Model_isField f) ?_
  rw [hI4]
  refine ev_if_eq (tgt := 17) d_Model_date_10 (by decide) (fun c_10 => ?_) (fun c_10 => ?_)
  · refine ev_iconst (v := 1) d_Model_date_17 (by decide) ?_
    refine mo_put (fp_Model_99 rfl rfl) d_Model_date_18 (Nat.le_of_ble_eq_true rfl) rfl rfl rfl ?_
    refine ev_aload_n d_Model_date_21 rfl rfl ?_
    refine mo_get (fa_Model_99 rfl rfl) d_Model_date_22 rfl ?_
    refine ev_if_eq (tgt := 30) d_Model_date_25 (by decide) (fun z => absurd (show (1 : Int32) = 0 from z) (by decide)) (fun _ => ?_)
    refine ev_lconst (v := 0) d_Model_date_28 (by decide) ?_
    refine ev_lret d_Model_date_29 rfl ?_
    exact ⟨_, rfl, Or.inl ⟨c_10, rfl, rfl⟩⟩
  · obtain ⟨j, hj, rfl⟩ := isF_1 (by omega) c_10
    have hq : F[j]? = some F[j] := List.getElem?_eq_getElem hj
    generalize F[j] = q at hq
    have hqv : q.2.length ≤ 1501 := by
      obtain ⟨na, va, r3, r5, b1, b2, n1, n2⟩ := flds_name hF hq
      omega
    refine ev_iconst (v := 0) d_Model_date_13 (by decide) ?_
    refine ev_goto (tgt := 18) d_Model_date_14 (by decide) ?_
    refine mo_put (fp_Model_99 rfl rfl) d_Model_date_18 (Nat.le_of_ble_eq_true rfl) rfl rfl rfl ?_
    refine ev_aload_n d_Model_date_21 rfl rfl ?_
    refine mo_get (fa_Model_99 rfl rfl) d_Model_date_22 rfl ?_
    refine ev_if_eq (tgt := 30) d_Model_date_25 (by decide) (fun _ => ?_) (fun z => absurd rfl z)
    refine ev_aload_n d_Model_date_30 rfl rfl ?_
    refine ev_iload_n d_Model_date_31 rfl rfl ?_
    refine ev_iconst (v := 0) d_Model_date_32 (by decide) ?_
    refine mo_Vn [.int (nI j), .int (bI false)] [] ca_Model_date_251 d_Model_date_33 rfl (Nat.le_of_ble_eq_true rfl) (c_Model_cut hT hF hF40 hk hq false) (fun h1 z => ?_)
    obtain ⟨I1, R1, rfl, w1, w2, w3, w4⟩ := z
    obtain ⟨-, wl, wb⟩ := wcut_len false q.2.length q.2 (Nat.le_refl _)
    generalize wcut false q.2.length q.2 = W at w1 wl wb
    have hl : W.length ≤ 1501 := by omega
    have hb : (wB W).length ≤ 1501 := by omega
    have fin : ∀ (I2 : Nat → Int32), sm [44] I1 I2 → ∀ o h', dP cI cZ h0 M R1 I2 o h' → (cr (fun v h' => (sp_isField (nI F.length) (nI j) = 0 ∧ v = .long 0 ∧ h' = mo_ov cI cZ h0 M (upd I 0 1) R) ∨ ∃ (j' : Nat) (q : List Int32 × List Int32), nI j = nI j' ∧ F[j']? = some q ∧ (∃ x : Int64, v = .long x) ∧ ∃ I' R', h' = mo_ov cI cZ h0 M I' R' ∧ I' 0 = 0 ∧ sm [0, 12, 18, 39, 40, 41, 44] I I' ∧ sm [8, 9, 10, 11, 12] R R')) o h' := by
      rintro I2 s2 o h' ⟨v, rfl, ⟨x, rfl⟩, I3, rfl, s3⟩
      refine ⟨_, rfl, Or.inr ⟨j, q, rfl, hq, ⟨x, rfl⟩, I3, R1, rfl, ?_, fun i hi => ?_, w4⟩⟩
      · rw [s3 0 (by decide), s2 0 (by decide), w3 0 (by decide)]; rfl
      · simp only [List.mem_cons, List.not_mem_nil, or_false, not_or] at hi
        rw [s3 i (by simp [hi]), s2 i (by simp [hi]), w3 i (by simp [hi]), upd_ne hi.1]
    refine ev_aload_n d_Model_date_36 rfl rfl ?_
    refine ev_aload_n d_Model_date_37 rfl rfl ?_
    refine ev_iconst (v := 0) d_Model_date_38 (by decide) ?_
    refine ev_aload_n d_Model_date_39 rfl rfl ?_
    refine mo_get (fa_Model_149 rfl rfl) d_Model_date_40 rfl ?_
    rw [w1.1]
    refine mo_Vv [.int (nI 0), .int (nI W.length)] [.ref M] ca_Model_date_197 d_Model_date_43 rfl (Nat.le_of_ble_eq_true rfl) (c_Model_next hT w1 hl (Nat.le_refl _) (by omega)) ?_
    have hn0 : nx W 0 W.length ≤ 1501 := by have := nx_le W (a := 0) (b := W.length) (by omega) (Nat.le_refl _); omega
    generalize nx W 0 W.length = w0 at hn0 ⊢
    refine mo_put (fp_Model_265 rfl rfl) d_Model_date_46 (Nat.le_of_ble_eq_true rfl) rfl rfl rfl ?_
    have hW1 : wOk W (upd I1 44 (nI w0)) R1 := wOk_I w1 rfl rfl
    have h440 : (upd I1 44 (nI w0)) 44 = nI w0 := by simp [upd]
    refine ev_aload_n d_Model_date_49 rfl rfl ?_
    refine ev_aload_n d_Model_date_50 rfl rfl ?_
    refine mo_get (fa_Model_265 rfl rfl) d_Model_date_51 rfl ?_
    rw [h440]
    refine ev_iconst (v := 1) d_Model_date_54 (by decide) ?_
    refine ev_iadd d_Model_date_55 ?_
    rw [nI_1]
    refine ev_aload_n d_Model_date_56 rfl rfl ?_
    refine mo_get (fa_Model_149 rfl rfl) d_Model_date_57 rfl ?_
    rw [hW1.1]
    refine mo_Vv [.int (nI (w0 + 1)), .int (nI W.length)] [] ca_Model_date_197 d_Model_date_60 rfl (Nat.le_of_ble_eq_true rfl) (c_Model_next hT hW1 hl (Nat.le_refl _) (by omega)) ?_
    have hnb := nxs (W := W) (c := 1501) hl hn0 (by decide)
    generalize nx W (w0 + 1) W.length = be at hnb ⊢
    refine ev_istore d_Model_date_63 (by decide) ?_
    refine ev_aload_n d_Model_date_65 rfl rfl ?_
    refine mo_get (fa_Model_265 rfl rfl) d_Model_date_66 rfl ?_
    rw [h440]
    refine ev_aload_n d_Model_date_69 rfl rfl ?_
    refine mo_get (fa_Model_149 rfl rfl) d_Model_date_70 rfl ?_
    rw [hW1.1]
    have go125 : ev_E G m_Model_date 125 [(0, .ref M), (2, .long (-9223372036854775808))] [] (mo_ov cI cZ h0 M (upd I1 44 (nI w0)) R1) (cr (fun v h' => (sp_isField (nI F.length) (nI j) = 0 ∧ v = .long 0 ∧ h' = mo_ov cI cZ h0 M (upd I 0 1) R) ∨ ∃ (j' : Nat) (q : List Int32 × List Int32), nI j = nI j' ∧ F[j']? = some q ∧ (∃ x : Int64, v = .long x) ∧ ∃ I' R', h' = mo_ov cI cZ h0 M I' R' ∧ I' 0 = 0 ∧ sm [0, 12, 18, 39, 40, 41, 44] I I' ∧ sm [8, 9, 10, 11, 12] R R')) :=
      ev_to (l_date125 hT hW1 hl hb h440 (by omega)) (fin _ (sm_upd (by decide)))
    refine ev_as [(0, .ref M), (2, .long (-9223372036854775808)), (4, .int (nI be))] ⟨rfl, rfl, rfl, trivial⟩ ?_
    have back : ev_E G m_Model_date 125 [(0, .ref M), (2, .long (-9223372036854775808)), (4, .int (nI be))] [] (mo_ov cI cZ h0 M (upd I1 44 (nI w0)) R1) _ := ev_as [(0, .ref M), (2, .long (-9223372036854775808))] ⟨rfl, rfl, trivial⟩ go125
    refine ev_icmp_ge (tgt := 125) d_Model_date_73 (by decide) (fun c_73 => ?_) (fun c_73 => ?_)
    · exact back
    · have hlt : w0 < W.length := by
        rcases Nat.lt_or_ge w0 W.length with q | q
        · exact q
        · exact absurd (nI_le q (by omega)) c_73
      have i8 : vp_in (nI w0) (mo_len 8) := vp_in_nI (show w0 < 1501 by omega) (by decide)
      refine ev_aload_n d_Model_date_76 rfl rfl ?_
      refine mo_get (fa_Model_31 rfl rfl) d_Model_date_77 rfl ?_
      refine ev_aload_n d_Model_date_80 rfl rfl ?_
      refine mo_get (fa_Model_265 rfl rfl) d_Model_date_81 rfl ?_
      rw [h440]
      refine mo_ald hT d_Model_date_84 (by decide) i8 ?_
      refine ev_iconst (v := 4) d_Model_date_85 (by decide) ?_
      refine ev_icmp_ne (tgt := 125) d_Model_date_86 (by decide) (fun c_86 => ?_) (fun c_86 => ?_)
      · exact back
      · refine ev_iload d_Model_date_89 rfl ?_
        refine ev_aload_n d_Model_date_91 rfl rfl ?_
        refine mo_get (fa_Model_149 rfl rfl) d_Model_date_92 rfl ?_
        rw [hW1.1]
        refine ev_icmp_ge (tgt := 125) d_Model_date_95 (by decide) (fun c_95 => ?_) (fun c_95 => ?_)
        · exact back
        · have hbl : be < W.length := by
            rcases Nat.lt_or_ge be W.length with q | q
            · exact q
            · exact absurd (nI_le q (by omega)) c_95
          have qk : W[be]? = some W[be] := List.getElem?_eq_getElem hbl
          generalize W[be] = wd at qk
          refine ev_aload_n d_Model_date_98 rfl rfl ?_
          refine ev_iload d_Model_date_99 rfl ?_
          refine ev_bipush (v := 44) d_Model_date_101 (by decide) ?_
          refine mo_Vv [.int (nI be), .int 44] [] ca_Model_date_200 d_Model_date_103 rfl (Nat.le_of_ble_eq_true rfl) (c_Model_is hT hW1 hl qk 44) ?_
          refine ev_if_eq (tgt := 125) d_Model_date_106 (by decide) (fun c_106 => ?_) (fun c_106 => ?_)
          · exact back
          · refine ev_aload_n d_Model_date_109 rfl rfl ?_
            refine ev_aload_n d_Model_date_110 rfl rfl ?_
            refine ev_iload d_Model_date_111 rfl ?_
            refine ev_iconst (v := 1) d_Model_date_113 (by decide) ?_
            refine ev_iadd d_Model_date_114 ?_
            rw [nI_1]
            refine ev_aload_n d_Model_date_115 rfl rfl ?_
            refine mo_get (fa_Model_149 rfl rfl) d_Model_date_116 rfl ?_
            rw [hW1.1]
            refine mo_Vv [.int (nI (be + 1)), .int (nI W.length)] [.ref M] ca_Model_date_197 d_Model_date_119 rfl (Nat.le_of_ble_eq_true rfl) (c_Model_next hT hW1 hl (Nat.le_refl _) (by omega)) ?_
            have hnc := nxs (W := W) (c := 1502) hl hnb (by decide)
            generalize nx W (be + 1) W.length = w2' at hnc ⊢
            refine mo_put (fp_Model_265 rfl rfl) d_Model_date_122 (Nat.le_of_ble_eq_true rfl) rfl rfl rfl ?_
            rw [upd_upd]
            have hW2 : wOk W (upd I1 44 (nI w2')) R1 := wOk_I w1 rfl rfl
            have h442 : (upd I1 44 (nI w2')) 44 = nI w2' := by simp [upd]
            exact ev_as [(0, .ref M), (2, .long (-9223372036854775808))] ⟨rfl, rfl, trivial⟩ (ev_to (l_date125 hT hW2 hl hb h442 (by omega)) (fin _ (sm_upd (by decide))))
end DATE3
