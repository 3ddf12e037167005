/-! the reference: words -/
abbrev Wds : Type := List (Int32 × Int32 × List Int32)
def wB (W : Wds) : List Int32 := W.flatMap (fun w => w.2.2)
theorem wB_snoc (W : Wds) (w : Int32 × Int32 × List Int32) : wB (W ++ [w]) = wB W ++ w.2.2 := by simp [wB]
/-- the same but for these -/
def sm {α : Type} (S : List Nat) (f g : Nat → α) : Prop := ∀ j, j ∉ S → g j = f j
theorem sm_rf {α : Type} (S : List Nat) (f : Nat → α) : sm S f f := fun _ _ => rfl
theorem sm_tr {α : Type} {S : List Nat} {f g h : Nat → α} (a : sm S f g) (b : sm S g h) : sm S f h := fun j hj => (b j hj).trans (a j hj)
theorem sm_up {α : Type} {S : List Nat} {f : Nat → α} {k : Nat} {v : α} (hk : k ∈ S) : sm S f (va_up f k v) := fun j hj => va_up_ne _ _ (fun e => hj (e ▸ hk))
theorem sm_upd {S : List Nat} {f : Nat → Int32} {k : Nat} {v : Int32} (hk : k ∈ S) : sm S f (upd f k v) := fun j hj => upd_ne (fun e => hj (e ▸ hk))
theorem sm_mono {α : Type} {S S' : List Nat} {f g : Nat → α} (a : sm S f g) (h : ∀ x ∈ S, x ∈ S') : sm S' f g := fun j hj => a j (fun z => hj (h j z))
def wRows (W : Wds) (R : Nat → Nat → Int32) : Prop := ∀ (i : Nat) (w : Int32 × Int32 × List Int32), W[i]? = some w → R 8 i = w.1 ∧ R 9 i = w.2.1 ∧ R 10 i = nI (wB (W.take i)).length ∧ R 11 i = nI ((wB (W.take i)).length + w.2.2.length)
def wOk (W : Wds) (I : Nat → Int32) (R : Nat → Nat → Int32) : Prop := I 12 = nI W.length ∧ I 18 = nI (wB W).length ∧ hol (R 12) 0 (wB W) ∧ wRows W R
def wIn (W : Wds) (k s : Int32) (cur : List Int32) (I : Nat → Int32) (R : Nat → Nat → Int32) : Prop := I 12 = nI W.length ∧ I 18 = nI ((wB W).length + cur.length) ∧ hol (R 12) 0 (wB W ++ cur) ∧ wRows W R ∧ R 8 W.length = k ∧ R 9 W.length = s ∧ R 10 W.length = nI (wB W).length
theorem wIn_I {W : Wds} {k s : Int32} {cur : List Int32} {I J : Nat → Int32} {R : Nat → Nat → Int32} (h : wIn W k s cur I R) (h1 : J 12 = I 12) (h2 : J 18 = I 18) : wIn W k s cur J R := ⟨by rw [h1]; exact h.1, by rw [h2]; exact h.2.1, h.2.2⟩
theorem wOk_I {W : Wds} {I J : Nat → Int32} {R : Nat → Nat → Int32} (h : wOk W I R) (h1 : J 12 = I 12) (h2 : J 18 = I 18) : wOk W J R := ⟨by rw [h1]; exact h.1, by rw [h2]; exact h.2.1, h.2.2⟩
/-- the cells are the reference's, with P of registers and rows -/
def mS (cI cZ : ClassId) (h0 : hp_T) (M : Nat) (P : (Nat → Int32) → (Nat → Nat → Int32) → Prop) : hp_T → Prop := fun h' => ∃ I' R', h' = mo_ov cI cZ h0 M I' R' ∧ P I' R'
section WORDS
variable {G : gl_G} {cI cZ : ClassId} {h0 : hp_T} {M : Nat} {I : Nat → Int32} {R : Nat → Nat → Int32} {W : Wds}
theorem c_Model_beginWord (hT : (gl_t G)[0]? = some (cI, .int)) (hW : wOk W I R) (hl : W.length < 1501) (k s : Int32) : ct_E G m_Model_beginWord [.ref M, .int k, .int s] (mo_ov cI cZ h0 M I R) (cn (mS cI cZ h0 M (fun I' R' => wIn W k s [] I' R' ∧ I' = I ∧ sm [8, 9, 10, 11, 12] R R'))) := by
  have hin : vp_in (I 12) (mo_len 8) := by rw [hW.1]; exact vp_in_nI (show W.length < 1501 by omega) (by decide)
  have hcl : (I 12).toNatClampNeg = W.length := by rw [hW.1, nI_clamp (by omega)]
  refine ct_of (ws' := tb_all) rfl rfl (Nat.le_of_ble_eq_true rfl) ?_
  refine ev_aload_n d_Model_beginWord_0 rfl rfl ?_
  refine mo_get (fa_Model_31 rfl rfl) d_Model_beginWord_1 rfl ?_
  refine ev_aload_n d_Model_beginWord_4 rfl rfl ?_
  refine mo_get (fa_Model_149 rfl rfl) d_Model_beginWord_5 rfl ?_
  refine ev_iload_n d_Model_beginWord_8 rfl rfl ?_
  refine mo_ast hT d_Model_beginWord_9 (by decide) hin ?_
  refine ev_aload_n d_Model_beginWord_10 rfl rfl ?_
  refine mo_get (fa_Model_34 rfl rfl) d_Model_beginWord_11 rfl ?_
  refine ev_aload_n d_Model_beginWord_14 rfl rfl ?_
  refine mo_get (fa_Model_149 rfl rfl) d_Model_beginWord_15 rfl ?_
  refine ev_iload_n d_Model_beginWord_18 rfl rfl ?_
  refine mo_ast hT d_Model_beginWord_19 (by decide) hin ?_
  refine ev_aload_n d_Model_beginWord_20 rfl rfl ?_
  refine mo_get (fa_Model_37 rfl rfl) d_Model_beginWord_21 rfl ?_
  refine ev_aload_n d_Model_beginWord_24 rfl rfl ?_
  refine mo_get (fa_Model_149 rfl rfl) d_Model_beginWord_25 rfl ?_
  refine ev_aload_n d_Model_beginWord_28 rfl rfl ?_
  refine mo_get (fa_Model_152 rfl rfl) d_Model_beginWord_29 rfl ?_
  refine mo_ast hT d_Model_beginWord_32 (by decide) hin ?_
  refine ev_vret d_Model_beginWord_33 rfl ?_
  rw [hcl]
  refine ⟨rfl, I, _, rfl, ⟨hW.1, by rw [hW.2.1]; rfl, by rw [List.append_nil]; exact hW.2.2.1, fun i w hi => ?_, ?_, ?_, ?_⟩, rfl, ?_⟩
  · have hlt := (List.getElem?_eq_some_iff.mp hi).1
    have := hW.2.2.2 i w hi
    refine ⟨?_, ?_, ?_, this.2.2.2⟩
    · show upd (R 8) W.length k i = _
      rw [upd_ne (by omega)]; exact this.1
    · show upd (R 9) W.length s i = _
      rw [upd_ne (by omega)]; exact this.2.1
    · show upd (R 10) W.length (I 18) i = _
      rw [upd_ne (by omega)]; exact this.2.2.1
  · show upd (R 8) W.length k W.length = k
    rw [upd_at]
  · show upd (R 9) W.length s W.length = s
    rw [upd_at]
  · show upd (R 10) W.length (I 18) W.length = _
    rw [upd_at, hW.2.1]
  · exact sm_tr (sm_tr (sm_up (by decide)) (sm_up (by decide))) (sm_up (by decide))
theorem c_Model_put (hT : (gl_t G)[0]? = some (cI, .int)) {k s : Int32} {cur : List Int32} (hW : wIn W k s cur I R) (hl : (wB W).length + cur.length < 1600) (c : Int32) : ct_E G m_Model_put [.ref M, .int c] (mo_ov cI cZ h0 M I R) (cn (mS cI cZ h0 M (fun I' R' => wIn W k s (cur ++ [c]) I' R' ∧ sm [12, 18, 39] I I' ∧ I' 39 = I 39 ∧ sm [8, 9, 10, 11, 12] R R'))) := by
  have hin : vp_in (I 18) (mo_len 12) := by rw [hW.2.1]; exact vp_in_nI (show _ < 1600 by omega) (by decide)
  have hcl : (I 18).toNatClampNeg = (wB W).length + cur.length := by rw [hW.2.1, nI_clamp (by omega)]
  refine ct_of (ws' := tb_all) rfl rfl (Nat.le_of_ble_eq_true rfl) ?_
  refine ev_aload_n d_Model_put_0 rfl rfl ?_
  refine mo_get (fa_Model_43 rfl rfl) d_Model_put_1 rfl ?_
  refine ev_aload_n d_Model_put_4 rfl rfl ?_
  refine mo_get (fa_Model_152 rfl rfl) d_Model_put_5 rfl ?_
  refine ev_iload_n d_Model_put_8 rfl rfl ?_
  refine mo_ast hT d_Model_put_9 (by decide) hin ?_
  refine ev_aload_n d_Model_put_10 rfl rfl ?_
  refine ev_dup d_Model_put_11 rfl ?_
  refine mo_get (fa_Model_152 rfl rfl) d_Model_put_12 rfl ?_
  refine ev_iconst (v := 1) d_Model_put_15 (by decide) ?_
  refine ev_iadd d_Model_put_16 ?_
  refine mo_put (fp_Model_152 rfl rfl) d_Model_put_17 (Nat.le_of_ble_eq_true rfl) rfl rfl rfl ?_
  refine ev_vret d_Model_put_20 rfl ?_
  rw [hcl]
  refine ⟨rfl, _, _, rfl, ⟨hW.1, ?_, ?_, hW.2.2.2⟩, sm_upd (by decide), rfl, sm_up (by decide)⟩
  · show I 18 + 1 = _
    rw [hW.2.1, ← nI_succ, List.length_append]
    rfl
  · show hol (upd (R 12) ((wB W).length + cur.length) c) 0 _
    rw [← List.append_assoc]
    have := hol_snoc hW.2.2.1 c
    rw [Nat.zero_add, List.length_append] at this
    exact this
theorem c_Model_endWord (hT : (gl_t G)[0]? = some (cI, .int)) {k s : Int32} {cur : List Int32} (hW : wIn W k s cur I R) (hl : W.length < 1501) : ct_E G m_Model_endWord [.ref M] (mo_ov cI cZ h0 M I R) (cn (mS cI cZ h0 M (fun I' R' => wOk (W ++ [(k, s, cur)]) I' R' ∧ sm [12, 18, 39] I I' ∧ I' 39 = I 39 ∧ sm [8, 9, 10, 11, 12] R R'))) := by
  have hin : vp_in (I 12) (mo_len 11) := by rw [hW.1]; exact vp_in_nI (show W.length < 1501 by omega) (by decide)
  have hcl : (I 12).toNatClampNeg = W.length := by rw [hW.1, nI_clamp (by omega)]
  refine ct_of (ws' := tb_all) rfl rfl (Nat.le_of_ble_eq_true rfl) ?_
  refine ev_aload_n d_Model_endWord_0 rfl rfl ?_
  refine mo_get (fa_Model_40 rfl rfl) d_Model_endWord_1 rfl ?_
  refine ev_aload_n d_Model_endWord_4 rfl rfl ?_
  refine mo_get (fa_Model_149 rfl rfl) d_Model_endWord_5 rfl ?_
  refine ev_aload_n d_Model_endWord_8 rfl rfl ?_
  refine mo_get (fa_Model_152 rfl rfl) d_Model_endWord_9 rfl ?_
  refine mo_ast hT d_Model_endWord_12 (by decide) hin ?_
  refine ev_aload_n d_Model_endWord_13 rfl rfl ?_
  refine ev_dup d_Model_endWord_14 rfl ?_
  refine mo_get (fa_Model_149 rfl rfl) d_Model_endWord_15 rfl ?_
  refine ev_iconst (v := 1) d_Model_endWord_18 (by decide) ?_
  refine ev_iadd d_Model_endWord_19 ?_
  refine mo_put (fp_Model_149 rfl rfl) d_Model_endWord_20 (Nat.le_of_ble_eq_true rfl) rfl rfl rfl ?_
  refine ev_vret d_Model_endWord_23 rfl ?_
  rw [hcl]
  refine ⟨rfl, _, _, rfl, ⟨?_, ?_, ?_, fun i w hi => ?_⟩, sm_upd (by decide), rfl, sm_up (by decide)⟩
  · show I 12 + 1 = _
    rw [hW.1, ← nI_succ, List.length_append]
    rfl
  · show I 18 = _
    rw [hW.2.1, wB_snoc, List.length_append]
  · show hol (R 12) 0 _
    rw [wB_snoc]
    exact hW.2.2.1
  · show R 8 i = _ ∧ R 9 i = _ ∧ R 10 i = _ ∧ upd (R 11) W.length (I 18) i = _
    by_cases hlt : i < W.length
    · rw [List.getElem?_append_left hlt] at hi
      rw [List.take_append_of_le_length (by omega), upd_ne (by omega)]
      exact hW.2.2.2.1 i w hi
    · have hi2 : i = W.length := by
        have := (List.getElem?_eq_some_iff.mp hi).1
        simp at this
        omega
      subst hi2
      rw [List.getElem?_append_right (Nat.le_refl _), Nat.sub_self] at hi
      cases hi
      rw [List.take_left' rfl, upd_at, hW.2.1]
      exact ⟨hW.2.2.2.2.1, hW.2.2.2.2.2.1, hW.2.2.2.2.2.2, rfl⟩
/-- how deep behind the byte c -/
def nd (isC : Bool) (close : Int32) (d : Nat) (c : Int32) : Nat := if c = close then (if isC = true ∧ c = 40 then d + 1 else d) - 1 else (if isC = true ∧ c = 40 then d + 1 else d)
/-- what stands enclosed, and what is left behind it -/
def encl (isC : Bool) (close : Int32) : Nat → List Int32 → List Int32 × List Int32
  | _, [] => ([], [])
  | d, c :: t => if c = 92 then (match t with
      | [] => ([], [])
      | e :: u => (e :: (encl isC close d u).1, (encl isC close d u).2))
    else if nd isC close d c = 0 then ([], t)
    else (c :: (encl isC close (nd isC close d c) t).1, (encl isC close (nd isC close d c) t).2)
theorem encl_o {isC : Bool} {close c : Int32} {d : Nat} {t : List Int32} (h : ¬ c = 92) : encl isC close d (c :: t) = if nd isC close d c = 0 then ([], t) else (c :: (encl isC close (nd isC close d c) t).1, (encl isC close (nd isC close d c) t).2) := by
  cases t with
  | nil =>
    conv => lhs; rw [encl]
    rw [if_neg h]
  | cons y u =>
    conv => lhs; rw [encl]
    rw [if_neg h]
theorem encl_b {isC : Bool} {close y : Int32} {d : Nat} {u : List Int32} : encl isC close d (92 :: y :: u) = (y :: (encl isC close d u).1, (encl isC close d u).2) := by
  rw [encl]; rw [if_pos rfl]
theorem encl_e {isC : Bool} {close : Int32} {d : Nat} : encl isC close d [92] = ([], []) := by
  rw [encl]; rw [if_pos rfl]
/-- what takeEnclosed leaves: a word more, p behind it -/
def teP (cI cZ : ClassId) (h0 : hp_T) (M : Nat) (I : Nat → Int32) (R : Nat → Nat → Int32) (W : Wds) (k : Int32) (bs rest : List Int32) (e : Nat) : hp_T → Prop := mS cI cZ h0 M (fun I' R' => wOk (W ++ [(k, 0, bs)]) I' R' ∧ I' 39 = nI (e - rest.length) ∧ sm [12, 18, 39] I I' ∧ sm [8, 9, 10, 11, 12] R R')
theorem l_Model_te0 (hT : (gl_t G)[0]? = some (cI, .int)) {I0 : Nat → Int32} {R0 : Nat → Nat → Int32} {k : Int32} {cur rest : List Int32} {e : Nat} (hW : wIn W k 0 cur I R) (hl : W.length < 1501) (hp : I 39 = nI (e - rest.length)) (hI : sm [12, 18, 39] I0 I) (hR : sm [8, 9, 10, 11, 12] R0 R) (lv : List (Nat × Value)) (h0l : lq_at lv 0 = some (.ref M)) :
    ev_E G m_Model_takeEnclosed 134 lv [] (mo_ov cI cZ h0 M I R) (cn (teP cI cZ h0 M I0 R0 W k cur rest e)) := by
  refine ev_aload_n d_Model_takeEnclosed_134 rfl h0l ?_
  refine mo_Vn [] [] ca_Model_takeEnclosed_162 d_Model_takeEnclosed_135 rfl (Nat.le_of_ble_eq_true rfl) (c_Model_endWord hT hW hl) (fun h1 z => ?_)
  obtain ⟨I2, R2, rfl, q1, q2, q3, q4⟩ := z
  refine ev_vret d_Model_takeEnclosed_138 rfl ?_
  exact ⟨rfl, I2, R2, rfl, q1, by rw [q3, hp], sm_tr hI q2, sm_tr hR q4⟩
theorem l_Model_te (hT : (gl_t G)[0]? = some (cI, .int)) {I0 : Nat → Int32} {R0 : Nat → Nat → Int32} {k close : Int32} {e : Nat} (he : e ≤ 1501) (hl : W.length < 1501) : ∀ (fu : Nat) (l : List Int32) (d : Nat) (cur : List Int32) (I : Nat → Int32) (R : Nat → Nat → Int32), l.length ≤ fu → 0 < d → d + l.length ≤ 1600 → l.length ≤ e → wIn W k 0 cur I R → (wB W).length + cur.length + l.length ≤ 1590 → hol (R 7) (e - l.length) l → I 39 = nI (e - l.length) → I 40 = nI e → sm [12, 18, 39] I0 I → sm [8, 9, 10, 11, 12] R0 R →
    ev_E G m_Model_takeEnclosed 18 [(0, .ref M), (1, .int k), (2, .int close), (3, .int (nI d))] [] (mo_ov cI cZ h0 M I R) (cn (teP cI cZ h0 M I0 R0 W k (cur ++ (encl (decide (k = 0)) close d l).1) (encl (decide (k = 0)) close d l).2 e)) := by
  intro fu
  induction fu with
  | zero =>
    intro l d cur I R hfu hd hdl hle hW hb hh hp hv hI hR
    have hl0 : l = [] := List.length_eq_zero_iff.mp (by omega)
    subst hl0
    refine ev_aload_n d_Model_takeEnclosed_18 rfl rfl ?_
    refine mo_get (fa_Model_143 rfl rfl) d_Model_takeEnclosed_19 rfl ?_
    refine ev_aload_n d_Model_takeEnclosed_22 rfl rfl ?_
    refine mo_get (fa_Model_146 rfl rfl) d_Model_takeEnclosed_23 rfl ?_
    rw [hp, hv]
    refine ev_icmp_ge (tgt := 134) d_Model_takeEnclosed_26 (by decide) (fun c_26 => ?_) (fun c_26 => ?_)
    · show ev_E _ _ _ _ _ _ (cn (teP cI cZ h0 M I0 R0 W k (cur ++ []) [] e))
      rw [List.append_nil]
      exact l_Model_te0 hT hW hl hp hI hR _ rfl
    · exact absurd (nI_le (by simp) (by simp; omega)) c_26
  | succ fu ih =>
    intro l d cur I R hfu hd hdl hle hW hb hh hp hv hI hR
    cases l with
    | nil =>
      refine ev_aload_n d_Model_takeEnclosed_18 rfl rfl ?_
      refine mo_get (fa_Model_143 rfl rfl) d_Model_takeEnclosed_19 rfl ?_
      refine ev_aload_n d_Model_takeEnclosed_22 rfl rfl ?_
      refine mo_get (fa_Model_146 rfl rfl) d_Model_takeEnclosed_23 rfl ?_
      rw [hp, hv]
      refine ev_icmp_ge (tgt := 134) d_Model_takeEnclosed_26 (by decide) (fun c_26 => ?_) (fun c_26 => ?_)
      · show ev_E _ _ _ _ _ _ (cn (teP cI cZ h0 M I0 R0 W k (cur ++ []) [] e))
        rw [List.append_nil]
        exact l_Model_te0 hT hW hl hp hI hR _ rfl
      · exact absurd (nI_le (by simp) (by simp; omega)) c_26
    | cons c t =>
      simp only [List.length_cons] at hfu hdl hle hb hp hh
      obtain ⟨hx, ht⟩ := hol_cons hh
      have hin7 : vp_in (I 39) (mo_len 7) := by rw [hp]; exact vp_in_nI (show _ < 1600 by omega) (by decide)
      have hc' : R 7 (I 39).toNatClampNeg = c := by rw [hp, nI_clamp (by omega)]; exact hx
      have ep : I 39 + 1 = nI (e - t.length) := by rw [hp, ← nI_succ]; congr 1; omega
      rw [show e - (t.length + 1) + 1 = e - t.length by omega] at ht
      refine ev_aload_n d_Model_takeEnclosed_18 rfl rfl ?_
      refine mo_get (fa_Model_143 rfl rfl) d_Model_takeEnclosed_19 rfl ?_
      refine ev_aload_n d_Model_takeEnclosed_22 rfl rfl ?_
      refine mo_get (fa_Model_146 rfl rfl) d_Model_takeEnclosed_23 rfl ?_
      refine ev_icmp_ge (tgt := 134) d_Model_takeEnclosed_26 (by decide) (fun c_26 => ?_) (fun c_26 => ?_)
      · rw [hp, hv] at c_26
        exact absurd c_26 (nI_ge (by omega) (by omega))
      · refine ev_iload_n d_Model_takeEnclosed_29 rfl rfl ?_
        refine ev_if_le (tgt := 134) d_Model_takeEnclosed_30 (by decide) (fun c_30 => ?_) (fun c_30 => ?_)
        · exact absurd c_30 (nI_nle (by omega) (by omega))
        · refine ev_aload_n d_Model_takeEnclosed_33 rfl rfl ?_
          refine mo_get (fa_Model_28 rfl rfl) d_Model_takeEnclosed_34 rfl ?_
          refine ev_aload_n d_Model_takeEnclosed_37 rfl rfl ?_
          refine mo_get (fa_Model_143 rfl rfl) d_Model_takeEnclosed_38 rfl ?_
          refine mo_ald hT d_Model_takeEnclosed_41 (by decide) hin7 ?_
          refine ev_istore d_Model_takeEnclosed_42 (by decide) ?_
          refine ev_aload_n d_Model_takeEnclosed_44 rfl rfl ?_
          refine ev_dup d_Model_takeEnclosed_45 rfl ?_
          refine mo_get (fa_Model_143 rfl rfl) d_Model_takeEnclosed_46 rfl ?_
          refine ev_iconst (v := 1) d_Model_takeEnclosed_49 (by decide) ?_
          refine ev_iadd d_Model_takeEnclosed_50 ?_
          refine mo_put (fp_Model_143 rfl rfl) d_Model_takeEnclosed_51 (Nat.le_of_ble_eq_true rfl) rfl rfl rfl ?_
          rw [hc', ep]
          have hW1 : wIn W k 0 cur (upd I 39 (nI (e - t.length))) R := wIn_I hW rfl rfl
          have hI1 : sm [12, 18, 39] I0 (upd I 39 (nI (e - t.length))) := sm_tr hI (sm_upd (by decide))
          refine ev_iload d_Model_takeEnclosed_54 rfl ?_
          refine ev_bipush (v := 92) d_Model_takeEnclosed_56 (by decide) ?_
          refine ev_icmp_ne (tgt := 98) d_Model_takeEnclosed_58 (by decide) (fun c_58 => ?_) (fun c_58 => ?_)
          · -- an ordinary byte
            have hne : ¬ c = 92 := c_58
            have deep : ev_E G m_Model_takeEnclosed 121 [(0, .ref M), (1, .int k), (2, .int close), (3, .int (nI (nd (decide (k = 0)) close d c))), (4, .int c)] [] (mo_ov cI cZ h0 M (upd I 39 (nI (e - t.length))) R) (cn (teP cI cZ h0 M I0 R0 W k (cur ++ (encl (decide (k = 0)) close d (c :: t)).1) (encl (decide (k = 0)) close d (c :: t)).2 e)) := by
              have hnd : nd (decide (k = 0)) close d c ≤ d + 1 := by unfold nd; split <;> split <;> omega
              refine ev_iload_n d_Model_takeEnclosed_121 rfl rfl ?_
              refine ev_if_le (tgt := 131) d_Model_takeEnclosed_122 (by decide) (fun c_122 => ?_) (fun c_122 => ?_)
              · have hz : nd (decide (k = 0)) close d c = 0 := by
                  rcases Nat.eq_zero_or_pos (nd (decide (k = 0)) close d c) with q | q
                  · exact q
                  · exact absurd c_122 (nI_nle q (by omega))
                have ee : encl (decide (k = 0)) close d (c :: t) = ([], t) := by
                  rw [encl_o hne, if_pos hz]
                rw [ee, List.append_nil, hz]
                refine ev_goto (tgt := 18) d_Model_takeEnclosed_131 (by decide) ?_
                refine ev_aload_n d_Model_takeEnclosed_18 rfl rfl ?_
                refine mo_get (fa_Model_143 rfl rfl) d_Model_takeEnclosed_19 rfl ?_
                refine ev_aload_n d_Model_takeEnclosed_22 rfl rfl ?_
                refine mo_get (fa_Model_146 rfl rfl) d_Model_takeEnclosed_23 rfl ?_
                refine ev_icmp_ge (tgt := 134) d_Model_takeEnclosed_26 (by decide) (fun c_26 => ?_) (fun c_26 => ?_)
                · exact l_Model_te0 hT hW1 hl rfl hI1 hR _ rfl
                · refine ev_iload_n d_Model_takeEnclosed_29 rfl rfl ?_
                  refine ev_if_le (tgt := 134) d_Model_takeEnclosed_30 (by decide) (fun c_30 => ?_) (fun c_30 => ?_)
                  · exact l_Model_te0 hT hW1 hl rfl hI1 hR _ rfl
                  · exact absurd (by decide) c_30
              · have hz : ¬ nd (decide (k = 0)) close d c = 0 := fun q => c_122 (by rw [q]; decide)
                have ee : encl (decide (k = 0)) close d (c :: t) = (c :: (encl (decide (k = 0)) close (nd (decide (k = 0)) close d c) t).1, (encl (decide (k = 0)) close (nd (decide (k = 0)) close d c) t).2) := by
                  rw [encl_o hne, if_neg hz]
                rw [ee]
                refine ev_aload_n d_Model_takeEnclosed_125 rfl rfl ?_
                refine ev_iload d_Model_takeEnclosed_126 rfl ?_
                refine mo_Vn [.int c] [] ca_Model_takeEnclosed_158 d_Model_takeEnclosed_128 rfl (Nat.le_of_ble_eq_true rfl) (c_Model_put hT hW1 (by omega) c) (fun h1 z => ?_)
                obtain ⟨I2, R2, rfl, q1, q2, q3, q4⟩ := z
                refine ev_goto (tgt := 18) d_Model_takeEnclosed_131 (by decide) ?_
                refine ev_as [(0, .ref M), (1, .int k), (2, .int close), (3, .int (nI (nd (decide (k = 0)) close d c)))] ⟨rfl, rfl, rfl, rfl, trivial⟩ ?_
                have k9 := ih t (nd (decide (k = 0)) close d c) (cur ++ [c]) I2 R2 (by omega) (by omega) (by omega) (by omega) q1 (by rw [List.length_append, List.length_singleton]; omega) (by rw [q4 7 (by decide)]; exact ht) (by rw [q3]; rfl) (by rw [q2 40 (by decide)]; exact hv) (sm_tr hI1 q2) (sm_tr hR q4)
                rw [List.append_assoc] at k9
                exact k9
            refine ev_iload_n d_Model_takeEnclosed_98 rfl rfl ?_
            have two : ∀ d1 : Nat, d1 = (if decide (k = 0) = true ∧ c = 40 then d + 1 else d) → 0 < d1 → d1 ≤ 1601 → ev_E G m_Model_takeEnclosed 112 [(0, .ref M), (1, .int k), (2, .int close), (3, .int (nI d1)), (4, .int c)] [] (mo_ov cI cZ h0 M (upd I 39 (nI (e - t.length))) R) (cn (teP cI cZ h0 M I0 R0 W k (cur ++ (encl (decide (k = 0)) close d (c :: t)).1) (encl (decide (k = 0)) close d (c :: t)).2 e)) := by
              intro d1 e1 hd1 hd2
              refine ev_iload d_Model_takeEnclosed_112 rfl ?_
              refine ev_iload_n d_Model_takeEnclosed_114 rfl rfl ?_
              refine ev_icmp_ne (tgt := 121) d_Model_takeEnclosed_115 (by decide) (fun c_115 => ?_) (fun c_115 => ?_)
              · have en : nd (decide (k = 0)) close d c = d1 := by unfold nd; rw [if_neg c_115, e1]
                rw [en] at deep
                exact deep
              · have en : nd (decide (k = 0)) close d c = d1 - 1 := by unfold nd; rw [if_pos c_115, e1]
                rw [en] at deep
                refine ev_iinc d_Model_takeEnclosed_118 rfl (by decide) ?_
                refine ev_as [(0, .ref M), (1, .int k), (2, .int close), (3, .int (nI (d1 - 1))), (4, .int c)] ⟨rfl, rfl, rfl, ?_, rfl, trivial⟩ deep
                show some (Value.int (nI d1 + (-1))) = _
                rw [sb_m1 hd1]
            refine ev_if_ne (tgt := 112) d_Model_takeEnclosed_99 (by decide) (fun c_99 => ?_) (fun c_99 => ?_)
            · exact two d (by rw [if_neg (fun z => c_99 (of_decide_eq_true z.1))]) hd (by omega)
            · refine ev_iload d_Model_takeEnclosed_102 rfl ?_
              refine ev_bipush (v := 40) d_Model_takeEnclosed_104 (by decide) ?_
              refine ev_icmp_ne (tgt := 112) d_Model_takeEnclosed_106 (by decide) (fun c_106 => ?_) (fun c_106 => ?_)
              · exact two d (by rw [if_neg (fun z => c_106 z.2)]) hd (by omega)
              · refine ev_iinc d_Model_takeEnclosed_109 rfl (by decide) ?_
                refine ev_as [(0, .ref M), (1, .int k), (2, .int close), (3, .int (nI (d + 1))), (4, .int c)] ⟨rfl, rfl, rfl, ?_, rfl, trivial⟩ (two (d + 1) (by rw [if_pos ⟨decide_eq_true c_99, c_106⟩]) (by omega) (by omega))
                show some (Value.int (nI d + 1)) = _
                rw [nI_succ]
          · -- a backslash
            have e92 : c = 92 := c_58
            subst e92
            refine ev_aload_n d_Model_takeEnclosed_61 rfl rfl ?_
            refine mo_get (fa_Model_143 rfl rfl) d_Model_takeEnclosed_62 rfl ?_
            refine ev_aload_n d_Model_takeEnclosed_65 rfl rfl ?_
            refine mo_get (fa_Model_146 rfl rfl) d_Model_takeEnclosed_66 rfl ?_
            refine ev_icmp_ge (tgt := 131) d_Model_takeEnclosed_69 (by decide) (fun c_69 => ?_) (fun c_69 => ?_)
            · have ht0 : t = [] := by
                rw [show (upd I 39 (nI (e - t.length))) 39 = nI (e - t.length) from rfl, show (upd I 39 (nI (e - t.length))) 40 = nI e from hv] at c_69
                have := (nI_leI (by omega) (by omega)).mp c_69
                exact List.length_eq_zero_iff.mp (by omega)
              subst ht0
              have ee : encl (decide (k = 0)) close d [92] = ([], []) := encl_e
              rw [ee, List.append_nil]
              refine ev_goto (tgt := 18) d_Model_takeEnclosed_131 (by decide) ?_
              refine ev_aload_n d_Model_takeEnclosed_18 rfl rfl ?_
              refine mo_get (fa_Model_143 rfl rfl) d_Model_takeEnclosed_19 rfl ?_
              refine ev_aload_n d_Model_takeEnclosed_22 rfl rfl ?_
              refine mo_get (fa_Model_146 rfl rfl) d_Model_takeEnclosed_23 rfl ?_
              refine ev_icmp_ge (tgt := 134) d_Model_takeEnclosed_26 (by decide) (fun c_26 => ?_) (fun c_26 => ?_)
              · exact l_Model_te0 hT hW1 hl rfl hI1 hR _ rfl
              · rw [show (upd I 39 (nI (e - ([] : List Int32).length))) 39 = nI (e - ([] : List Int32).length) from rfl, show (upd I 39 (nI (e - ([] : List Int32).length))) 40 = nI e from hv] at c_26
                exact absurd (nI_le (by simp) (by simp; omega)) c_26
            · obtain ⟨y, u, rfl⟩ : ∃ y u, t = y :: u := by
                cases t with
                | nil =>
                  rw [show (upd I 39 (nI (e - ([] : List Int32).length))) 39 = nI (e - ([] : List Int32).length) from rfl, show (upd I 39 (nI (e - ([] : List Int32).length))) 40 = nI e from hv] at c_69
                  exact absurd (nI_le (by simp) (by simp; omega)) c_69
                | cons y u => exact ⟨y, u, rfl⟩
              simp only [List.length_cons] at hfu hdl hle hb ht hW1 hI1
              obtain ⟨hy, hu⟩ := hol_cons ht
              rw [show e - (u.length + 1) + 1 = e - u.length by omega] at hu
              have hin8 : vp_in (nI (e - (u.length + 1))) (mo_len 7) := vp_in_nI (show _ < 1600 by omega) (by decide)
              have ee : encl (decide (k = 0)) close d (92 :: y :: u) = (y :: (encl (decide (k = 0)) close d u).1, (encl (decide (k = 0)) close d u).2) := encl_b
              rw [ee]
              refine ev_aload_n d_Model_takeEnclosed_72 rfl rfl ?_
              refine ev_aload_n d_Model_takeEnclosed_73 rfl rfl ?_
              refine mo_get (fa_Model_28 rfl rfl) d_Model_takeEnclosed_74 rfl ?_
              refine ev_aload_n d_Model_takeEnclosed_77 rfl rfl ?_
              refine mo_get (fa_Model_143 rfl rfl) d_Model_takeEnclosed_78 rfl ?_
              refine mo_ald hT d_Model_takeEnclosed_81 (by decide) hin8 ?_
              rw [show (upd I 39 (nI (e - (y :: u).length))) 39 = nI (e - (u.length + 1)) from rfl, nI_clamp (by omega), hy]
              refine mo_Vn [.int y] [] ca_Model_takeEnclosed_158 d_Model_takeEnclosed_82 rfl (Nat.le_of_ble_eq_true rfl) (c_Model_put hT hW1 (by omega) y) (fun h1 z => ?_)
              obtain ⟨I2, R2, rfl, q1, q2, q3, q4⟩ := z
              have q3' : I2 39 + 1 = nI (e - u.length) := by
                rw [q3]
                show nI (e - (u.length + 1)) + 1 = _
                rw [← nI_succ]; congr 1; omega
              refine ev_aload_n d_Model_takeEnclosed_85 rfl rfl ?_
              refine ev_dup d_Model_takeEnclosed_86 rfl ?_
              refine mo_get (fa_Model_143 rfl rfl) d_Model_takeEnclosed_87 rfl ?_
              refine ev_iconst (v := 1) d_Model_takeEnclosed_90 (by decide) ?_
              refine ev_iadd d_Model_takeEnclosed_91 ?_
              refine mo_put (fp_Model_143 rfl rfl) d_Model_takeEnclosed_92 (Nat.le_of_ble_eq_true rfl) rfl rfl rfl ?_
              refine ev_goto (tgt := 131) d_Model_takeEnclosed_95 (by decide) ?_
              rw [q3']
              refine ev_goto (tgt := 18) d_Model_takeEnclosed_131 (by decide) ?_
              refine ev_as [(0, .ref M), (1, .int k), (2, .int close), (3, .int (nI d))] ⟨rfl, rfl, rfl, rfl, trivial⟩ ?_
              have k9 := ih u d (cur ++ [y]) (upd I2 39 (nI (e - u.length))) R2 (by omega) hd (by omega) (by omega) (wIn_I q1 rfl rfl) (by rw [List.length_append, List.length_singleton]; omega) (by rw [q4 7 (by decide)]; exact hu) rfl (by show I2 40 = _; rw [q2 40 (by decide)]; exact hv) (sm_tr (sm_tr hI1 q2) (sm_upd (by decide))) (sm_tr hR q4)
              rw [List.append_assoc] at k9
              exact k9
theorem c_Model_takeEnclosed (hT : (gl_t G)[0]? = some (cI, .int)) {e : Nat} (he : e ≤ 1501) (hW : wOk W I R) (hl : W.length < 1501) {t : List Int32} (hte : t.length + 1 ≤ e) (hb : (wB W).length + t.length ≤ 1590) (hh : hol (R 7) (e - t.length) t) (hp : I 39 = nI (e - (t.length + 1))) (hv : I 40 = nI e) (k close : Int32) : ct_E G m_Model_takeEnclosed [.ref M, .int k, .int close] (mo_ov cI cZ h0 M I R) (cn (teP cI cZ h0 M I R W k (encl (decide (k = 0)) close 1 t).1 (encl (decide (k = 0)) close 1 t).2 e)) := by
  refine ct_of (ws' := tb_all) rfl rfl (Nat.le_of_ble_eq_true rfl) ?_
  refine ev_aload_n d_Model_takeEnclosed_0 rfl rfl ?_
  refine ev_iload_n d_Model_takeEnclosed_1 rfl rfl ?_
  refine ev_iconst (v := 0) d_Model_takeEnclosed_2 (by decide) ?_
  refine mo_Vn [.int k, .int 0] [] ca_Model_takeEnclosed_155 d_Model_takeEnclosed_3 rfl (Nat.le_of_ble_eq_true rfl) (c_Model_beginWord hT hW hl k 0) (fun h1 z => ?_)
  obtain ⟨I2, R2, rfl, q1, rfl, q4⟩ := z
  refine ev_aload_n d_Model_takeEnclosed_6 rfl rfl ?_
  refine ev_dup d_Model_takeEnclosed_7 rfl ?_
  refine mo_get (fa_Model_143 rfl rfl) d_Model_takeEnclosed_8 rfl ?_
  refine ev_iconst (v := 1) d_Model_takeEnclosed_11 (by decide) ?_
  refine ev_iadd d_Model_takeEnclosed_12 ?_
  refine mo_put (fp_Model_143 rfl rfl) d_Model_takeEnclosed_13 (Nat.le_of_ble_eq_true rfl) rfl rfl rfl ?_
  refine ev_iconst (v := 1) d_Model_takeEnclosed_16 (by decide) ?_
  refine ev_istore_n d_Model_takeEnclosed_17 rfl (by decide) ?_
  rw [show I2 39 + 1 = nI (e - t.length) by rw [hp, ← nI_succ]; congr 1; omega]
  refine ev_as [(0, .ref M), (1, .int k), (2, .int close), (3, .int (nI 1))] ⟨rfl, rfl, rfl, rfl, trivial⟩ ?_
  exact l_Model_te hT he hl t.length t 1 [] (upd I2 39 (nI (e - t.length))) R2 (Nat.le_refl _) (by decide) (by omega) (by omega) (wIn_I q1 rfl rfl) (by rw [List.length_nil]; omega) (by rw [q4 7 (by decide)]; exact hh) rfl hv (sm_upd (by decide)) q4
end WORDS
