/-! dates: the reference's date, strong -/
def ps (W : Wds) (w k : Nat) : Prop := W[w]? = (nc W)[k]? ∧ nc (W.drop (w + 1)) = (nc W).drop (k + 1)
section DREF4
variable {G : gl_G} {cI cZ : ClassId} {h0 : hp_T} {M : Nat} {R : Nat → Nat → Int32} {W : Wds}
theorem ps_0 (W : Wds) : ps W (nx W 0 W.length) 0 := by
  obtain ⟨a1, a2⟩ := nx_hd W 0
  rw [List.drop_zero] at a1 a2
  exact ⟨a1, a2⟩
theorem ps_s {w k : Nat} (h : ps W w k) : ps W (nx W (w + 1) W.length) (k + 1) := by
  obtain ⟨b1, b2⟩ := nx_hd W (w + 1)
  rw [h.2] at b1 b2
  refine ⟨b1.trans ?_, b2.trans ?_⟩
  · rw [List.getElem?_drop]
  · rw [List.drop_drop] <;> first | rfl | (congr 1; omega)
/-- what date answers and leaves, from a place within it -/
abbrev dPs (cI cZ : ClassId) (h0 : hp_T) (M : Nat) (R : Nat → Nat → Int32) (V : Int64) (I : Nat → Int32) : Option Value → hp_T → Prop := cr (fun v h' => v = .long V ∧ ∃ I', h' = mo_ov cI cZ h0 M I' R ∧ sm [44] I I')
theorem dPs_up {V : Int64} {I : Nat → Int32} {v : Int32} {o : Option Value} {h' : hp_T} (h : dPs cI cZ h0 M R V (upd I 44 v) o h') : dPs cI cZ h0 M R V I o h' := by
  obtain ⟨x, rfl, h1, I', rfl, h2⟩ := h
  exact ⟨x, rfl, h1, I', rfl, sm_tr (sm_upd (by decide)) h2⟩
theorem lt_of {w : Nat} {wd : Wd} (h : W[w]? = some wd) : w < W.length := (List.getElem?_eq_some_iff.mp h).1
theorem z_date345 (hT : (gl_t G)[0]? = some (cI, .int)) {I : Nat → Int32} (hW : wOk W I R) (hl : W.length ≤ 1501) (hb : (wB W).length ≤ 1501) {w : Nat} (hw : I 44 = nI w) (hw2 : w ≤ 1600) {d hh mi s : Int32} {mo y : Nat} (hm1 : 1 ≤ mo) (hmo : mo ≤ 12) (hy0 : 1900 ≤ y) (hy : y ≤ 2999) :
    ev_E G m_Model_date 345 [(0, .ref M), (2, .long noD), (5, .int d), (6, .int (nI mo)), (7, .int (nI y)), (8, .int hh), (10, .int mi), (11, .int s)] [] (mo_ov cI cZ h0 M I R) (dPs cI cZ h0 M R (if s < 0 then noD else rV d mo y hh mi s (zon W[w]?)) I) := by
  refine ev_iload d_Model_date_345 rfl ?_
  by_cases q : s < 0
  · refine ev_if_ge (tgt := 352) d_Model_date_347 (by decide) (fun z => absurd q (Int32.not_lt.mpr z)) (fun _ => ?_)
    rw [if_pos q]
    refine ev_lload_n d_Model_date_350 rfl rfl ?_
    refine ev_lret d_Model_date_351 rfl ?_
    exact ⟨_, rfl, rfl, I, rfl, sm_rf _ _⟩
  · refine ev_if_ge (tgt := 352) d_Model_date_347 (by decide) (fun _ => ?_) (fun z => absurd (Int32.not_lt.mp q) z)
    rw [if_neg q]
    refine ev_aload_n d_Model_date_352 rfl rfl ?_
    refine ev_iload d_Model_date_353 rfl ?_
    refine ev_iload d_Model_date_355 rfl ?_
    refine ev_iload d_Model_date_357 rfl ?_
    refine mo_Vv [.int d, .int (nI mo), .int (nI y)] [] ca_Model_date_334 d_Model_date_359 rfl (Nat.le_of_ble_eq_true rfl) (z_dayNumber hm1 hmo hy0 hy) ?_
    refine ev_ldc2 (v := 86400) (List.mem_cons_of_mem _ tw_1317) d_Model_date_362 ?_
    refine ev_lmul d_Model_date_365 ?_
    refine ev_ldc2 (v := 3600) (List.mem_cons_of_mem _ tw_1318) d_Model_date_366 ?_
    refine ev_iload d_Model_date_369 rfl ?_
    refine ev_i2l d_Model_date_371 ?_
    refine ev_lmul d_Model_date_372 ?_
    refine ev_ladd d_Model_date_373 ?_
    refine ev_ldc2 (v := 60) (List.mem_cons_of_mem _ tw_1319) d_Model_date_374 ?_
    refine ev_iload d_Model_date_377 rfl ?_
    refine ev_i2l d_Model_date_379 ?_
    refine ev_lmul d_Model_date_380 ?_
    refine ev_ladd d_Model_date_381 ?_
    refine ev_iload d_Model_date_382 rfl ?_
    refine ev_i2l d_Model_date_384 ?_
    refine ev_ladd d_Model_date_385 ?_
    refine ev_aload_n d_Model_date_386 rfl rfl ?_
    refine ev_aload_n d_Model_date_387 rfl rfl ?_
    refine mo_get (fa_Model_265 rfl rfl) d_Model_date_388 rfl ?_
    rw [hw]
    refine mo_Vv [.int (nI w)] [.long _] ca_Model_date_344 d_Model_date_391 rfl (Nat.le_of_ble_eq_true rfl) (z_zoneOf hT hW hl hb (by omega)) ?_
    refine ev_i2l d_Model_date_394 ?_
    refine ev_lsub d_Model_date_395 ?_
    refine ev_lret d_Model_date_396 rfl ?_
    exact ⟨_, rfl, rfl, I, rfl, sm_rf _ _⟩
theorem z_date302 (hT : (gl_t G)[0]? = some (cI, .int)) {I : Nat → Int32} (hW : wOk W I R) (hl : W.length ≤ 1501) (hb : (wB W).length ≤ 1501) {w k : Nat} (hw : I 44 = nI w) (hw2 : w ≤ 1590) (hp : ps W w k) {d hh mi : Int32} {mo y : Nat} (hm1 : 1 ≤ mo) (hmo : mo ≤ 12) (hy0 : 1900 ≤ y) (hy : y ≤ 2999) :
    ev_E G m_Model_date 302 [(0, .ref M), (2, .long noD), (5, .int d), (6, .int (nI mo)), (7, .int (nI y)), (8, .int hh), (10, .int mi)] [] (mo_ov cI cZ h0 M I R) (dPs cI cZ h0 M R (tS3 d mo y hh mi (nc W) k) I) := by
  have no : isC (nc W)[k]? 58 = false → ev_E G m_Model_date 345 [(0, .ref M), (2, .long noD), (5, .int d), (6, .int (nI mo)), (7, .int (nI y)), (8, .int hh), (10, .int mi), (11, .int 0)] [] (mo_ov cI cZ h0 M I R) (dPs cI cZ h0 M R (tS3 d mo y hh mi (nc W) k) I) := by
    intro q
    have := z_date345 (G := G) (cI := cI) (cZ := cZ) (h0 := h0) (M := M) (d := d) (hh := hh) (mi := mi) (s := 0) hT hW hl hb hw (show w ≤ 1600 by omega) hm1 hmo hy0 hy
    unfold tS3
    rw [q, if_neg (show ¬ (false = true) by decide), if_neg (show ¬ (false = true) by decide), ← hp.1]
    exact this
  refine ev_iconst (v := 0) d_Model_date_302 (by decide) ?_
  refine ev_istore d_Model_date_303 (by decide) ?_
  refine ev_aload_n d_Model_date_305 rfl rfl ?_
  refine mo_get (fa_Model_265 rfl rfl) d_Model_date_306 rfl ?_
  rw [hw]
  refine ev_aload_n d_Model_date_309 rfl rfl ?_
  refine mo_get (fa_Model_149 rfl rfl) d_Model_date_310 rfl ?_
  rw [hW.1]
  cases qk : W[w]? with
  | none =>
    have h1 := List.getElem?_eq_none_iff.mp qk
    refine ev_icmp_ge (tgt := 345) d_Model_date_313 (by decide) (fun _ => ?_) (fun z => absurd (nI_le h1 (by omega)) z)
    exact no (by rw [← hp.1, qk]; rfl)
  | some wd =>
    have hlt := lt_of qk
    refine ev_icmp_ge (tgt := 345) d_Model_date_313 (by decide) (fun z => absurd z (nI_ge hlt (by omega))) (fun _ => ?_)
    refine ev_aload_n d_Model_date_316 rfl rfl ?_
    refine ev_aload_n d_Model_date_317 rfl rfl ?_
    refine mo_get (fa_Model_265 rfl rfl) d_Model_date_318 rfl ?_
    rw [hw]
    refine ev_bipush (v := 58) d_Model_date_321 (by decide) ?_
    refine mo_Vv [.int (nI w), .int 58] [] ca_Model_date_200 d_Model_date_323 rfl (Nat.le_of_ble_eq_true rfl) (c_Model_is hT hW hl qk 58) ?_
    cases c6 : wIs wd 58 with
    | false =>
      refine ev_if_eq (tgt := 345) d_Model_date_326 (by decide) (fun _ => ?_) (fun z => absurd rfl z)
      exact no (by rw [← hp.1, qk]; exact c6)
    | true =>
      refine ev_if_eq (tgt := 345) d_Model_date_326 (by decide) (fun z => absurd z (by decide)) (fun _ => ?_)
      have e6 : isC (nc W)[k]? 58 = true := by rw [← hp.1, qk]; exact c6
      unfold tS3
      rw [e6, if_pos rfl, if_pos rfl]
      have hp1 := ps_s hp
      have hp2 := ps_s hp1
      refine ev_aload_n d_Model_date_329 rfl rfl ?_
      refine mo_Vn [] [] ca_Model_date_322 d_Model_date_330 rfl (Nat.le_of_ble_eq_true rfl) (c_Model_step hT hW hl hw (by omega)) (fun h1 z => ?_)
      subst z
      have hn1 := nxs (W := W) (c := 1590) hl (show w ≤ 1590 by omega) (by decide)
      have hW1 : wOk W (upd I 44 (nI (nx W (w + 1) W.length))) R := wOk_I hW rfl rfl
      refine ev_aload_n d_Model_date_333 rfl rfl ?_
      refine ev_bipush (v := 61) d_Model_date_334 (by decide) ?_
      refine mo_Vv [.int (nI 61)] [] ca_Model_date_331 d_Model_date_336 rfl (Nat.le_of_ble_eq_true rfl) (z_two (w := nx W (w + 1) W.length) hT hW1 hl hb rfl (by omega) (b := 61) (by decide)) ?_
      rw [hp1.1]
      refine ev_istore d_Model_date_339 (by decide) ?_
      refine ev_aload_n d_Model_date_341 rfl rfl ?_
      refine mo_Vn [] [] ca_Model_date_322 d_Model_date_342 rfl (Nat.le_of_ble_eq_true rfl) (c_Model_step (w := nx W (w + 1) W.length) hT hW1 hl rfl (by omega)) (fun h1 z => ?_)
      subst z
      rw [upd_upd]
      have hn2 := nxs (W := W) (c := 1591) hl hn1 (by decide)
      rw [show (nc W)[k + 2]? = W[nx W (nx W (w + 1) W.length + 1) W.length]? from hp2.1.symm]
      exact ev_to (z_date345 (I := upd I 44 (nI (nx W (nx W (w + 1) W.length + 1) W.length))) (w := nx W (nx W (w + 1) W.length + 1) W.length) hT (wOk_I hW rfl rfl) hl hb (by simp [upd]) (by omega) hm1 hmo hy0 hy) (fun _ _ q => dPs_up q)
theorem z_date226 (hT : (gl_t G)[0]? = some (cI, .int)) {I : Nat → Int32} (hW : wOk W I R) (hl : W.length ≤ 1501) (hb : (wB W).length ≤ 1501) {w k : Nat} (hw : I 44 = nI w) (hw2 : w ≤ 1560) (hp : ps W w k) {d : Int32} {mo y : Nat} (hm1 : 1 ≤ mo) (hmo : mo ≤ 12) (hy0 : 1900 ≤ y) (hy : y ≤ 2999) :
    ev_E G m_Model_date 226 [(0, .ref M), (2, .long noD), (5, .int d), (6, .int (nI mo)), (7, .int (nI y))] [] (mo_ov cI cZ h0 M I R) (dPs cI cZ h0 M R (tS2 d mo y (nc W) k) I) := by
  have hp1 := ps_s hp
  have hp2 := ps_s hp1
  have hp3 := ps_s hp2
  refine ev_aload_n d_Model_date_226 rfl rfl ?_
  refine ev_bipush (v := 24) d_Model_date_227 (by decide) ?_
  refine mo_Vv [.int (nI 24)] [] ca_Model_date_331 d_Model_date_229 rfl (Nat.le_of_ble_eq_true rfl) (z_two hT hW hl hb hw (by omega) (b := 24) (by decide)) ?_
  rw [hp.1]
  refine ev_istore d_Model_date_232 (by decide) ?_
  refine ev_aload_n d_Model_date_234 rfl rfl ?_
  refine mo_Vn [] [] ca_Model_date_322 d_Model_date_235 rfl (Nat.le_of_ble_eq_true rfl) (c_Model_step hT hW hl hw (by omega)) (fun h1 z => ?_)
  subst z
  have hn1 := nxs (W := W) (c := 1560) hl hw2 (by decide)
  have hW1 : wOk W (upd I 44 (nI (nx W (w + 1) W.length))) R := wOk_I hW rfl rfl
  generalize nx W (w + 1) W.length = w1 at hn1 hW1 hp1 hp2 hp3 ⊢
  have h441 : (upd I 44 (nI w1)) 44 = nI w1 := by simp [upd]
  have hn2 := nxs (W := W) (c := 1561) hl hn1 (by decide)
  have hn3 := nxs (W := W) (c := 1562) hl hn2 (by decide)
  unfold tS2
  -- from 267 on
  have on : ∀ cl : Bool, isC (nc W)[k + 1]? 58 = cl → ev_E G m_Model_date 267 [(0, .ref M), (2, .long noD), (5, .int d), (6, .int (nI mo)), (7, .int (nI y)), (8, .int (two 24 (nc W)[k]?))] [.int (bI cl)] (mo_ov cI cZ h0 M (upd I 44 (nI w1)) R) (dPs cI cZ h0 M R (if two 24 (nc W)[k]? < 0 ∨ isC (nc W)[k + 1]? 58 = false ∨ two 60 (nc W)[k + 2]? < 0 then noD else tS3 d mo y (two 24 (nc W)[k]?) (two 60 (nc W)[k + 2]?) (nc W) (k + 3)) I) := by
    intro cl hcl
    refine ev_istore d_Model_date_267 (by decide) ?_
    refine ev_aload_n d_Model_date_269 rfl rfl ?_
    refine mo_Vn [] [] ca_Model_date_322 d_Model_date_270 rfl (Nat.le_of_ble_eq_true rfl) (c_Model_step hT hW1 hl h441 (by omega)) (fun h1 z => ?_)
    subst z
    rw [upd_upd]
    generalize nx W (w1 + 1) W.length = w2 at hn2 hn3 hp2 hp3 ⊢
    have hW2 : wOk W (upd I 44 (nI w2)) R := wOk_I hW rfl rfl
    have h442 : (upd I 44 (nI w2)) 44 = nI w2 := by simp [upd]
    refine ev_aload_n d_Model_date_273 rfl rfl ?_
    refine ev_bipush (v := 60) d_Model_date_274 (by decide) ?_
    refine mo_Vv [.int (nI 60)] [] ca_Model_date_331 d_Model_date_276 rfl (Nat.le_of_ble_eq_true rfl) (z_two hT hW2 hl hb h442 (by omega) (b := 60) (by decide)) ?_
    rw [hp2.1, show (nc W)[k + 1 + 1]? = (nc W)[k + 2]? from rfl]
    refine ev_istore d_Model_date_279 (by decide) ?_
    refine ev_aload_n d_Model_date_281 rfl rfl ?_
    refine mo_Vn [] [] ca_Model_date_322 d_Model_date_282 rfl (Nat.le_of_ble_eq_true rfl) (c_Model_step hT hW2 hl h442 (by omega)) (fun h1 z => ?_)
    subst z
    rw [upd_upd]
    generalize nx W (w2 + 1) W.length = w3 at hn3 hp3 ⊢
    have hW3 : wOk W (upd I 44 (nI w3)) R := wOk_I hW rfl rfl
    have h443 : (upd I 44 (nI w3)) 44 = nI w3 := by simp [upd]
    have hp3' : ps W w3 (k + 3) := hp3
    refine ev_to (Z := dPs cI cZ h0 M R _ (upd I 44 (nI w3))) ?_ (fun _ _ q => dPs_up q)
    generalize two 24 (nc W)[k]? = hh
    generalize two 60 (nc W)[k + 2]? = mi
    rw [hcl]
    refine ev_as [(0, .ref M), (2, .long noD), (5, .int d), (6, .int (nI mo)), (7, .int (nI y)), (8, .int hh), (9, .int (bI cl)), (10, .int mi)] ⟨rfl, rfl, rfl, rfl, rfl, rfl, rfl, rfl, trivial⟩ ?_
    have none_ : (hh < 0 ∨ cl = false ∨ mi < 0) → ev_E G m_Model_date 300 [(0, .ref M), (2, .long noD), (5, .int d), (6, .int (nI mo)), (7, .int (nI y)), (8, .int hh), (9, .int (bI cl)), (10, .int mi)] [] (mo_ov cI cZ h0 M (upd I 44 (nI w3)) R) (dPs cI cZ h0 M R (if hh < 0 ∨ cl = false ∨ mi < 0 then noD else tS3 d mo y hh mi (nc W) (k + 3)) (upd I 44 (nI w3))) := by
      intro q
      refine ev_lload_n d_Model_date_300 rfl rfl ?_
      refine ev_lret d_Model_date_301 rfl ?_
      rw [if_pos q]
      exact ⟨_, rfl, rfl, _, rfl, sm_rf _ _⟩
    refine ev_iload d_Model_date_285 rfl ?_
    refine ev_if_lt (tgt := 300) d_Model_date_287 (by decide) (fun c_287 => ?_) (fun c_287 => ?_)
    · exact none_ (Or.inl c_287)
    · refine ev_iload d_Model_date_290 rfl ?_
      refine ev_if_eq (tgt := 300) d_Model_date_292 (by decide) (fun c_292 => ?_) (fun c_292 => ?_)
      · exact none_ (Or.inr (Or.inl (by cases cl; rfl; exact absurd c_292 (by decide))))
      · refine ev_iload d_Model_date_295 rfl ?_
        refine ev_if_ge (tgt := 302) d_Model_date_297 (by decide) (fun c_297 => ?_) (fun c_297 => ?_)
        · have hc : cl = true := by
            cases cl
            · exact absurd rfl c_292
            · rfl
          rw [if_neg (fun z => by
            rcases z with z | z | z
            · exact c_287 z
            · rw [hc] at z; cases z
            · exact Int32.not_lt.mpr c_297 z)]
          refine ev_as [(0, .ref M), (2, .long noD), (5, .int d), (6, .int (nI mo)), (7, .int (nI y)), (8, .int hh), (10, .int mi)] ⟨rfl, rfl, rfl, rfl, rfl, rfl, rfl, trivial⟩ ?_
          exact z_date302 hT hW3 hl hb h443 (by omega) hp3' hm1 hmo hy0 hy
        · exact none_ (Or.inr (Or.inr (Int32.not_le.mp c_297)))
  refine ev_aload_n d_Model_date_238 rfl rfl ?_
  refine mo_get (fa_Model_265 rfl rfl) d_Model_date_239 rfl ?_
  rw [h441]
  refine ev_aload_n d_Model_date_242 rfl rfl ?_
  refine mo_get (fa_Model_149 rfl rfl) d_Model_date_243 rfl ?_
  rw [hW1.1]
  cases qk : W[w1]? with
  | none =>
    have h1 := List.getElem?_eq_none_iff.mp qk
    refine ev_icmp_ge (tgt := 266) d_Model_date_246 (by decide) (fun _ => ?_) (fun z => absurd (nI_le h1 (by omega)) z)
    refine ev_iconst (v := 0) d_Model_date_266 (by decide) ?_
    exact on false (by rw [← hp1.1, qk]; rfl)
  | some wd =>
    have hlt := lt_of qk
    refine ev_icmp_ge (tgt := 266) d_Model_date_246 (by decide) (fun z => absurd z (nI_ge hlt (by omega))) (fun _ => ?_)
    refine ev_aload_n d_Model_date_249 rfl rfl ?_
    refine ev_aload_n d_Model_date_250 rfl rfl ?_
    refine mo_get (fa_Model_265 rfl rfl) d_Model_date_251 rfl ?_
    rw [h441]
    refine ev_bipush (v := 58) d_Model_date_254 (by decide) ?_
    refine mo_Vv [.int (nI w1), .int 58] [] ca_Model_date_200 d_Model_date_256 rfl (Nat.le_of_ble_eq_true rfl) (c_Model_is hT hW1 hl qk 58) ?_
    cases c6 : wIs wd 58 with
    | false =>
      refine ev_if_eq (tgt := 266) d_Model_date_259 (by decide) (fun _ => ?_) (fun z => absurd rfl z)
      refine ev_iconst (v := 0) d_Model_date_266 (by decide) ?_
      exact on false (by rw [← hp1.1, qk]; exact c6)
    | true =>
      refine ev_if_eq (tgt := 266) d_Model_date_259 (by decide) (fun z => absurd z (by decide)) (fun _ => ?_)
      refine ev_iconst (v := 1) d_Model_date_262 (by decide) ?_
      refine ev_goto (tgt := 267) d_Model_date_263 (by decide) ?_
      exact on true (by rw [← hp1.1, qk]; exact c6)
theorem z_date125 (hT : (gl_t G)[0]? = some (cI, .int)) {I : Nat → Int32} (hW : wOk W I R) (hl : W.length ≤ 1501) (hb : (wB W).length ≤ 1501) {w k : Nat} (hw : I 44 = nI w) (hw2 : w ≤ 1510) (hp : ps W w k) :
    ev_E G m_Model_date 125 [(0, .ref M), (2, .long noD)] [] (mo_ov cI cZ h0 M I R) (dPs cI cZ h0 M R (tS1 (nc W) k) I) := by
  have hp1 := ps_s hp
  have hp2 := ps_s hp1
  have hp3 := ps_s hp2
  have on : ev_E G m_Model_date 150 [(0, .ref M), (2, .long noD)] [.int (dyR (num 1 2 W[w]?))] (mo_ov cI cZ h0 M I R) (dPs cI cZ h0 M R (tS1 (nc W) k) I) := by
    unfold tS1
    rw [hp.1]
    generalize dyR (num 1 2 (nc W)[k]?) = d
    refine ev_istore d_Model_date_150 (by decide) ?_
    refine ev_aload_n d_Model_date_152 rfl rfl ?_
    refine mo_Vn [] [] ca_Model_date_322 d_Model_date_153 rfl (Nat.le_of_ble_eq_true rfl) (c_Model_step hT hW hl hw (by omega)) (fun h1 z => ?_)
    subst z
    have hn1 := nxs (W := W) (c := 1510) hl hw2 (by decide)
    generalize nx W (w + 1) W.length = w1 at hn1 hp1 hp2 hp3 ⊢
    have hW1 : wOk W (upd I 44 (nI w1)) R := wOk_I hW rfl rfl
    have h441 : (upd I 44 (nI w1)) 44 = nI w1 := by simp [upd]
    refine ev_aload_n d_Model_date_156 rfl rfl ?_
    refine ev_aload_n d_Model_date_157 rfl rfl ?_
    refine mo_get (fa_Model_265 rfl rfl) d_Model_date_158 rfl ?_
    rw [h441]
    refine mo_Vv [.int (nI w1)] [] ca_Model_date_325 d_Model_date_161 rfl (Nat.le_of_ble_eq_true rfl) (z_monthOf hT hW1 hl hb (by omega)) ?_
    rw [hp1.1]
    refine ev_istore d_Model_date_164 (by decide) ?_
    refine ev_aload_n d_Model_date_166 rfl rfl ?_
    refine mo_Vn [] [] ca_Model_date_322 d_Model_date_167 rfl (Nat.le_of_ble_eq_true rfl) (c_Model_step hT hW1 hl h441 (by omega)) (fun h1 z => ?_)
    subst z
    rw [upd_upd]
    have hn2 := nxs (W := W) (c := 1511) hl hn1 (by decide)
    generalize nx W (w1 + 1) W.length = w2 at hn2 hp2 hp3 ⊢
    have hW2 : wOk W (upd I 44 (nI w2)) R := wOk_I hW rfl rfl
    have h442 : (upd I 44 (nI w2)) 44 = nI w2 := by simp [upd]
    refine ev_aload_n d_Model_date_170 rfl rfl ?_
    refine ev_aload_n d_Model_date_171 rfl rfl ?_
    refine mo_get (fa_Model_265 rfl rfl) d_Model_date_172 rfl ?_
    rw [h442]
    refine mo_Vv [.int (nI w2)] [] ca_Model_date_328 d_Model_date_175 rfl (Nat.le_of_ble_eq_true rfl) (z_yearOf hT hW2 hl hb (by omega)) ?_
    rw [hp2.1, show (nc W)[k + 1 + 1]? = (nc W)[k + 2]? from rfl]
    refine ev_istore d_Model_date_178 (by decide) ?_
    refine ev_aload_n d_Model_date_180 rfl rfl ?_
    refine mo_Vn [] [] ca_Model_date_322 d_Model_date_181 rfl (Nat.le_of_ble_eq_true rfl) (c_Model_step hT hW2 hl h442 (by omega)) (fun h1 z => ?_)
    subst z
    rw [upd_upd]
    have hn3 := nxs (W := W) (c := 1512) hl hn2 (by decide)
    generalize nx W (w2 + 1) W.length = w3 at hn3 hp3 ⊢
    have hW3 : wOk W (upd I 44 (nI w3)) R := wOk_I hW rfl rfl
    have h443 : (upd I 44 (nI w3)) 44 = nI w3 := by simp [upd]
    have hp3' : ps W w3 (k + 3) := hp3
    have hmo : ∃ mo : Nat, mo ≤ 12 ∧ mon (nc W)[k + 1]? + 1 = nI mo := by
      rcases mon_cases (nc W)[k + 1]? with q | ⟨i, hi, q⟩
      · exact ⟨0, by decide, by rw [q]; rfl⟩
      · exact ⟨i + 1, by omega, by rw [q]; exact nI_1 i⟩
    obtain ⟨mo, hmo, em⟩ := hmo
    rw [em]
    generalize yrR (nc W)[k + 2]? = y
    refine ev_to (Z := dPs cI cZ h0 M R _ (upd I 44 (nI w3))) ?_ (fun _ _ q => dPs_up q)
    refine ev_as [(0, .ref M), (2, .long noD), (5, .int d), (6, .int (nI mo)), (7, .int y)] ⟨rfl, rfl, rfl, rfl, rfl, trivial⟩ ?_
    have none_ : (d < 1 ∨ nI mo < 1 ∨ y < 1900 ∨ 2999 < y ∨ dRf (nI mo) y < d) → ev_E G m_Model_date 224 [(0, .ref M), (2, .long noD), (5, .int d), (6, .int (nI mo)), (7, .int y)] [] (mo_ov cI cZ h0 M (upd I 44 (nI w3)) R) (dPs cI cZ h0 M R (if d < 1 ∨ nI mo < 1 ∨ y < 1900 ∨ 2999 < y ∨ dRf (nI mo) y < d then noD else tS2 d (nI mo).toNatClampNeg y.toNatClampNeg (nc W) (k + 3)) (upd I 44 (nI w3))) := by
      intro q
      refine ev_lload_n d_Model_date_224 rfl rfl ?_
      refine ev_lret d_Model_date_225 rfl ?_
      rw [if_pos q]
      exact ⟨_, rfl, rfl, _, rfl, sm_rf _ _⟩
    refine ev_iload d_Model_date_184 rfl ?_
    refine ev_iconst (v := 1) d_Model_date_186 (by decide) ?_
    refine ev_icmp_lt (tgt := 224) d_Model_date_187 (by decide) (fun c_187 => ?_) (fun c_187 => ?_)
    · exact none_ (Or.inl c_187)
    · refine ev_iload d_Model_date_190 rfl ?_
      refine ev_iconst (v := 1) d_Model_date_192 (by decide) ?_
      refine ev_icmp_lt (tgt := 224) d_Model_date_193 (by decide) (fun c_193 => ?_) (fun c_193 => ?_)
      · exact none_ (Or.inr (Or.inl c_193))
      · refine ev_iload d_Model_date_196 rfl ?_
        refine ev_sipush (v := 1900) d_Model_date_198 (by decide) ?_
        refine ev_icmp_lt (tgt := 224) d_Model_date_201 (by decide) (fun c_201 => ?_) (fun c_201 => ?_)
        · exact none_ (Or.inr (Or.inr (Or.inl c_201)))
        · refine ev_iload d_Model_date_204 rfl ?_
          refine ev_sipush (v := 2999) d_Model_date_206 (by decide) ?_
          refine ev_icmp_gt (tgt := 224) d_Model_date_209 (by decide) (fun c_209 => ?_) (fun c_209 => ?_)
          · exact none_ (Or.inr (Or.inr (Or.inr (Or.inl c_209))))
          · have hy0 : ¬ y < 0 := fun z => c_201 (Int32.lt_trans z (by decide))
            obtain ⟨yy, hyy, rfl⟩ := nI_of hy0
            have hy9 : yy ≤ 2999 := by
              rcases Nat.lt_or_ge 2999 yy with q | q
              · exact absurd (nI_lt q hyy) c_209
              · exact q
            have hy1 : 1900 ≤ yy := by
              rcases Nat.lt_or_ge yy 1900 with q | q
              · exact absurd (nI_lt q (by decide)) c_201
              · exact q
            have hm1 : 1 ≤ mo := by
              rcases Nat.lt_or_ge mo 1 with q | q
              · exact absurd (nI_lt q (by decide)) c_193
              · exact q
            refine ev_iload d_Model_date_212 rfl ?_
            refine ev_iload d_Model_date_214 rfl ?_
            refine ev_iload d_Model_date_216 rfl ?_
            refine ev_Sv [.int (nI mo), .int (nI yy)] [.int d] ca_Model_date_315 d_Model_date_218 rfl (Nat.le_of_ble_eq_true rfl) (z_daysOf (nI mo) (nI yy)) ?_
            refine ev_icmp_le (tgt := 226) d_Model_date_221 (by decide) (fun c_221 => ?_) (fun c_221 => ?_)
            · rw [if_neg (fun z => by
                rcases z with z | z | z | z | z
                · exact c_187 z
                · exact c_193 z
                · exact c_201 z
                · exact c_209 z
                · exact Int32.not_lt.mpr c_221 z), nI_clamp (by omega), nI_clamp hyy]
              exact z_date226 hT hW3 hl hb h443 (by omega) hp3' hm1 hmo hy1 hy9
            · exact none_ (Or.inr (Or.inr (Or.inr (Or.inr (Int32.not_le.mp c_221)))))
  refine ev_aload_n d_Model_date_125 rfl rfl ?_
  refine ev_aload_n d_Model_date_126 rfl rfl ?_
  refine mo_get (fa_Model_265 rfl rfl) d_Model_date_127 rfl ?_
  rw [hw]
  refine ev_iconst (v := 1) d_Model_date_130 (by decide) ?_
  refine ev_iconst (v := 2) d_Model_date_131 (by decide) ?_
  refine mo_Vv [.int (nI w), .int (nI 1), .int (nI 2)] [] ca_Model_date_294 d_Model_date_132 rfl (Nat.le_of_ble_eq_true rfl) (z_isDigits hT hW hl hb (by omega) (a := 1) (b := 2) (by decide) (by decide)) ?_
  cases hn : num 1 2 W[w]? with
  | none =>
    rw [hn] at on
    refine ev_if_eq (tgt := 149) d_Model_date_135 (by decide) (fun _ => ?_) (fun z => absurd rfl z)
    refine ev_iconst (v := 0) d_Model_date_149 (by decide) ?_
    exact on
  | some x =>
    rw [hn] at on
    refine ev_if_eq (tgt := 149) d_Model_date_135 (by decide) (fun z => absurd (show (1 : Int32) = 0 from z) (by decide)) (fun _ => ?_)
    obtain ⟨wd, qk, hd, e⟩ : ∃ wd : Wd, W[w]? = some wd ∧ dgs wd.2.2 = true ∧ nmR wd.2.2 0 = x := by
      cases qk : W[w]? with
      | none => rw [qk] at hn; cases hn
      | some wd =>
        rw [qk] at hn
        unfold num at hn
        simp only at hn
        split at hn
        · rename_i q
          cases hn
          exact ⟨wd, rfl, q.2.2.2, nmR_four q.2.2.2 (by omega)⟩
        · cases hn
    refine ev_aload_n d_Model_date_138 rfl rfl ?_
    refine ev_aload_n d_Model_date_139 rfl rfl ?_
    refine mo_get (fa_Model_265 rfl rfl) d_Model_date_140 rfl ?_
    rw [hw]
    refine mo_Vv [.int (nI w)] [] ca_Model_date_297 d_Model_date_143 rfl (Nat.le_of_ble_eq_true rfl) (z_number hT hW hl hb qk hd) ?_
    rw [e]
    refine ev_goto (tgt := 150) d_Model_date_146 (by decide) ?_
    exact on
end DREF4
