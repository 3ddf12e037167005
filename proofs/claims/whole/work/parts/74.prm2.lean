/-! the reference: type: a parameter taken -/
theorem wds_o {W : Wds} {I : Nat → Int32} {R : Nat → Nat → Int32} (hW : wOk W I R) {i : Nat} {w : Int32 × Int32 × List Int32} (hi : W[i]? = some w) : R 10 i = nI (wB (W.take i)).length ∧ R 11 i = nI ((wB (W.take i)).length + w.2.2.length) ∧ (wB (W.take i)).length + w.2.2.length ≤ (wB W).length ∧ ∀ f, hol f 0 (wB W) → hol f (wB (W.take i)).length w.2.2 := by
  have hr := hW.2.2.2 i w hi
  have e : wB W = wB (W.take i) ++ (w.2.2 ++ wB (W.drop (i + 1))) := by
    have e1 : W = W.take i ++ (w :: W.drop (i + 1)) := by
      rw [← (List.getElem?_eq_some_iff.mp hi).2]
      rw [List.getElem_cons_drop, List.take_append_drop]
    have e2 := congrArg wB e1
    rw [e2]
    simp [wB]
  have l := congrArg List.length e
  simp only [List.length_append] at l
  refine ⟨hr.2.2.1, hr.2.2.2, by omega, fun f hf => ?_⟩
  rw [e] at hf
  have h2 := hol_right hf
  rw [Nat.zero_add] at h2
  exact hol_left h2
theorem hol_getD {f : Nat → Int32} {o : Nat} {xs : List Int32} (h : hol f o xs) {j : Nat} (hj : j < xs.length) : f (o + j) = xs.getD j 0 := by
  rw [List.getD_eq_getElem?_getD, hol_at h hj]
  rfl
/-- a parameter's name: is it CODED; its length without the last star; has it a PIECE; what is left -/
def cdN (nm : List Int32) : Bool := decide (0 < nm.length ∧ nm.getD (nm.length - 1) 0 = 42)
def n1N (nm : List Int32) : Nat := if cdN nm = true then nm.length - 1 else nm.length
def pcN (nm : List Int32) : Bool := decide (2 ≤ n1N nm ∧ ¬ sp_digit (nm.getD (n1N nm - 1) 0) = 0 ∧ nm.getD (n1N nm - 2) 0 = 42)
def piN (nm : List Int32) : Int32 := if pcN nm = true then nm.getD (n1N nm - 1) 0 - 48 else -1
def n2N (nm : List Int32) : Nat := if pcN nm = true then n1N nm - 2 else n1N nm
theorem n1N_le (nm : List Int32) : n1N nm ≤ nm.length := by unfold n1N; split <;> omega
theorem n2N_le (nm : List Int32) : n2N nm ≤ n1N nm := by unfold n2N; split <;> omega
/-- the parameter whose words begin at k -/
def prmAt (W : Wds) (k : Nat) : Option Prm := match W[nx W k W.length]?, W[nx W (nx W k W.length + 1) W.length]?, W[nx W (nx W (nx W k W.length + 1) W.length + 1) W.length]? with
  | some wa, some ws, some wv => if wa.1 = 4 ∧ wIs ws 61 = true ∧ (wv.1 = 4 ∨ wv.1 = 1) ∧ ¬ n2N wa.2.2 = 0 then some (wa.2.2.take (n2N wa.2.2), piN wa.2.2, cdN wa.2.2, wv.2.2) else none
  | _, _, _ => none
section PRM2
variable {G : gl_G} {cI cZ : ClassId} {h0 : hp_T} {M : Nat} {I : Nat → Int32} {R : Nat → Nat → Int32} {W : Wds} {Q : List Prm}
/-- what takeParameter leaves -/
def tpP (cI cZ : ClassId) (h0 : hp_T) (M : Nat) (I : Nat → Int32) (R : Nat → Nat → Int32) (Q : List Prm) (o : Option Prm) : hp_T → Prop := fun h' => match o with
  | none => h' = mo_ov cI cZ h0 M I R
  | some q => ∃ R', h' = mo_ov cI cZ h0 M (upd I 27 (nI (Q.length + 1))) R' ∧ pmOk (Q ++ [q]) (upd I 27 (nI (Q.length + 1))) R' ∧ sm [19, 20, 21, 22, 23, 24] R R'
/-- the six stores -/
theorem l_Model_tpS (hT : (gl_t G)[0]? = some (cI, .int)) (hZ : (gl_t G)[1]? = some (cZ, .boolean)) (hQ : pmOk Q I R) (hQn : Q.length < 800) (hl : W.length ≤ 1501) {a v oa ov n2 : Nat} {cd : Bool} {pi x1 x3 : Int32} {nm vl : List Int32} (ha : a < W.length) (hv : v < W.length) (ra : R 10 a = nI oa) (rv : R 10 v = nI ov) (rv2 : R 11 v = nI (ov + vl.length)) (b1 : oa + n2 ≤ 1600) (b2 : ov + vl.length ≤ 1600) (hs : sumV Q + vl.length ≤ 1600) (hnm : nm.length = n2) (h1 : hol (R 25) oa nm) (h2 : hol (R 25) ov vl) :
    ev_E G m_Model_takeParameter 209 [(0, .ref M), (1, .int x1), (2, .int (nI a)), (3, .int x3), (4, .int (nI v)), (5, .int (nI (oa + n2))), (6, .int (bI cd)), (7, .int pi)] [] (mo_ov cI cZ h0 M I R) (cn (tpP cI cZ h0 M I R Q (some (nm, pi, cd, vl)))) := by
  have h27 := hQ.1
  have hq : ∀ k, mo_len k = 800 → vp_in (nI Q.length) (mo_len k) := fun k hk => by rw [hk]; exact vp_in_nI hQn (by decide)
  have ia : ∀ k, mo_len k = 1501 → vp_in (nI a) (mo_len k) := fun k hk => by rw [hk]; exact vp_in_nI (by omega) (by decide)
  have iv : ∀ k, mo_len k = 1501 → vp_in (nI v) (mo_len k) := fun k hk => by rw [hk]; exact vp_in_nI (by omega) (by decide)
  have cQ : (nI Q.length).toNatClampNeg = Q.length := nI_clamp (by omega)
  refine ev_aload_n d_Model_takeParameter_209 rfl rfl ?_
  refine mo_get (fa_Model_64 rfl rfl) d_Model_takeParameter_210 rfl ?_
  refine ev_aload_n d_Model_takeParameter_213 rfl rfl ?_
  refine mo_get (fa_Model_347 rfl rfl) d_Model_takeParameter_214 rfl ?_
  rw [h27]
  refine ev_aload_n d_Model_takeParameter_217 rfl rfl ?_
  refine mo_get (fa_Model_37 rfl rfl) d_Model_takeParameter_218 rfl ?_
  refine ev_iload_n d_Model_takeParameter_221 rfl rfl ?_
  refine mo_ald hT d_Model_takeParameter_222 (by decide) (ia 10 rfl) ?_
  rw [nI_clamp (show a < 2 ^ 31 by omega), ra]
  refine mo_ast hT d_Model_takeParameter_223 (by decide) (hq 19 rfl) ?_
  rw [cQ]
  refine ev_aload_n d_Model_takeParameter_224 rfl rfl ?_
  refine mo_get (fa_Model_67 rfl rfl) d_Model_takeParameter_225 rfl ?_
  refine ev_aload_n d_Model_takeParameter_228 rfl rfl ?_
  refine mo_get (fa_Model_347 rfl rfl) d_Model_takeParameter_229 rfl ?_
  rw [h27]
  refine ev_iload d_Model_takeParameter_232 rfl ?_
  refine mo_ast hT d_Model_takeParameter_234 (by decide) (hq 20 rfl) ?_
  rw [cQ]
  refine ev_aload_n d_Model_takeParameter_235 rfl rfl ?_
  refine mo_get (fa_Model_70 rfl rfl) d_Model_takeParameter_236 rfl ?_
  refine ev_aload_n d_Model_takeParameter_239 rfl rfl ?_
  refine mo_get (fa_Model_347 rfl rfl) d_Model_takeParameter_240 rfl ?_
  rw [h27]
  refine ev_iload d_Model_takeParameter_243 rfl ?_
  refine mo_ast hT d_Model_takeParameter_245 (by decide) (hq 21 rfl) ?_
  rw [cQ]
  refine ev_aload_n d_Model_takeParameter_246 rfl rfl ?_
  refine mo_get (fa_Model_73 rfl rfl) d_Model_takeParameter_247 rfl ?_
  refine ev_aload_n d_Model_takeParameter_250 rfl rfl ?_
  refine mo_get (fa_Model_347 rfl rfl) d_Model_takeParameter_251 rfl ?_
  rw [h27]
  refine ev_iload d_Model_takeParameter_254 rfl ?_
  refine mo_zast hZ d_Model_takeParameter_256 (hq 22 rfl) ?_
  rw [cQ, show vp_nar .boolean (bI cd) = bI cd by cases cd <;> rfl]
  refine ev_aload_n d_Model_takeParameter_257 rfl rfl ?_
  refine mo_get (fa_Model_77 rfl rfl) d_Model_takeParameter_258 rfl ?_
  refine ev_aload_n d_Model_takeParameter_261 rfl rfl ?_
  refine mo_get (fa_Model_347 rfl rfl) d_Model_takeParameter_262 rfl ?_
  rw [h27]
  refine ev_aload_n d_Model_takeParameter_265 rfl rfl ?_
  refine mo_get (fa_Model_37 rfl rfl) d_Model_takeParameter_266 rfl ?_
  refine ev_iload d_Model_takeParameter_269 rfl ?_
  refine mo_ald hT d_Model_takeParameter_271 (by decide) (iv 10 rfl) ?_
  rw [nI_clamp (show v < 2 ^ 31 by omega), up_ne (by decide), up_ne (by decide), up_ne (by decide), up_ne (by decide), rv]
  refine mo_ast hT d_Model_takeParameter_272 (by decide) (hq 23 rfl) ?_
  rw [cQ]
  refine ev_aload_n d_Model_takeParameter_273 rfl rfl ?_
  refine mo_get (fa_Model_80 rfl rfl) d_Model_takeParameter_274 rfl ?_
  refine ev_aload_n d_Model_takeParameter_277 rfl rfl ?_
  refine mo_get (fa_Model_347 rfl rfl) d_Model_takeParameter_278 rfl ?_
  rw [h27]
  refine ev_aload_n d_Model_takeParameter_281 rfl rfl ?_
  refine mo_get (fa_Model_40 rfl rfl) d_Model_takeParameter_282 rfl ?_
  refine ev_iload d_Model_takeParameter_285 rfl ?_
  refine mo_ald hT d_Model_takeParameter_287 (by decide) (iv 11 rfl) ?_
  rw [nI_clamp (show v < 2 ^ 31 by omega), up_ne (by decide), up_ne (by decide), up_ne (by decide), up_ne (by decide), up_ne (by decide), rv2]
  refine mo_ast hT d_Model_takeParameter_288 (by decide) (hq 24 rfl) ?_
  rw [cQ]
  refine ev_aload_n d_Model_takeParameter_289 rfl rfl ?_
  refine ev_dup d_Model_takeParameter_290 rfl ?_
  refine mo_get (fa_Model_347 rfl rfl) d_Model_takeParameter_291 rfl ?_
  refine ev_iconst (v := 1) d_Model_takeParameter_294 (by decide) ?_
  refine ev_iadd d_Model_takeParameter_295 ?_
  rw [h27, nI_1]
  refine mo_put (fp_Model_347 rfl rfl) d_Model_takeParameter_296 (Nat.le_of_ble_eq_true rfl) rfl rfl rfl ?_
  refine ev_vret d_Model_takeParameter_299 rfl ?_
  refine ⟨rfl, _, rfl, ⟨?_, ?_, ?_, fun i q hi => ?_⟩, fun j hj => ?_⟩
  · simp [upd]
  · simp; omega
  · have e : ∀ (A : List Prm) (q : Prm), sumV (A ++ [q]) = sumV A + q.2.2.2.length := fun A q => by
      induction A with
      | nil => simp [sumV]
      | cons x A ih => simp only [List.cons_append, sumV]; omega
    rw [e]
    exact hs
  · by_cases hiQ : i < Q.length
    · rw [List.getElem?_append_left hiQ] at hi
      obtain ⟨a', c', r1, r2, r3, r4, r5, r6, r7⟩ := hQ.2.2.2 i q hi
      have hne : i ≠ Q.length := by omega
      refine ⟨a', c', ?_, ?_, ?_, ?_, ?_, ?_, r7⟩
      · rw [up_ne (by decide), up_ne (by decide), up_ne (by decide), up_ne (by decide), up_ne (by decide), va_up_self, pk_un hne]; exact r1
      · rw [up_ne (by decide), up_ne (by decide), up_ne (by decide), up_ne (by decide), va_up_self, pk_un hne, up_ne (by decide)]; exact r2
      · rw [up_ne (by decide), up_ne (by decide), up_ne (by decide), va_up_self, pk_un hne, up_ne (by decide), up_ne (by decide)]; exact r3
      · rw [up_ne (by decide), up_ne (by decide), va_up_self, pk_un hne, up_ne (by decide), up_ne (by decide), up_ne (by decide)]; exact r4
      · rw [up_ne (by decide), va_up_self, pk_un hne, up_ne (by decide), up_ne (by decide), up_ne (by decide), up_ne (by decide)]; exact r5
      · rw [va_up_self, pk_un hne, up_ne (by decide), up_ne (by decide), up_ne (by decide), up_ne (by decide), up_ne (by decide)]; exact r6
    · have hiE : i = Q.length := by
        have := (List.getElem?_eq_some_iff.mp hi).1
        simp at this
        omega
      subst hiE
      have hqe : q = (nm, pi, cd, vl) := by simpa using hi.symm
      subst hqe
      refine ⟨oa, ov, ?_, ?_, ?_, ?_, ?_, ?_, by rw [hnm]; exact b1, b2, ?_, ?_⟩
      · rw [up_ne (by decide), up_ne (by decide), up_ne (by decide), up_ne (by decide), up_ne (by decide), va_up_self, pk_us]
      · rw [up_ne (by decide), up_ne (by decide), up_ne (by decide), up_ne (by decide), va_up_self, pk_us, hnm]
      · rw [up_ne (by decide), up_ne (by decide), up_ne (by decide), va_up_self, pk_us]
      · rw [up_ne (by decide), up_ne (by decide), va_up_self, pk_us]
      · rw [up_ne (by decide), va_up_self, pk_us]
      · rw [va_up_self, pk_us]
      · exact h1
      · exact h2
  · show va_up _ _ _ j = _
    simp only [List.mem_cons, List.not_mem_nil, or_false, not_or] at hj
    obtain ⟨j1, j2, j3, j4, j5, j6⟩ := hj
    rw [up_ne j6, up_ne j5, up_ne j4, up_ne j3, up_ne j2, up_ne j1]
end PRM2
