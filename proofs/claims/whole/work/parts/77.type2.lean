/-! the reference: type -/
theorem pOk_R {P : Pts} {ml : Nat → Nat} {R R' : Nat → Nat → Int32} (h : pOk P ml R) (hs : ∀ j, 13 ≤ j → j ≤ 17 → R' j = R j) : pOk P ml R' := by
  refine ⟨fun a ha => ?_, fun w hw => ?_⟩
  · rw [hs 14 (by decide) (by decide)]; exact h.1 a ha
  · obtain ⟨h1, h2, h3⟩ := h.2 w hw
    refine ⟨by rw [hs 15 (by decide) (by decide)]; exact h1, h2, fun k l hk => ?_⟩
    have := h3 k l hk
    unfold pAt at this ⊢
    rw [hs 17 (by decide) (by decide), hs 16 (by decide) (by decide), hs 13 (by decide) (by decide)]
    exact this
theorem flds_R {F : Flds} {R R' : Nat → Nat → Int32} (h : flds F R) (hs : ∀ j, 3 ≤ j → j ≤ 7 → R' j = R j) : flds F R' := flds_same h (hs 3 (by decide) (by decide)) (hs 4 (by decide) (by decide)) (hs 5 (by decide) (by decide)) (hs 6 (by decide) (by decide)) (hs 7 (by decide) (by decide))
/-- TYPE and SUBTYPE, and where the second stands -/
def tyA (W : Wds) : Option (List Int32 × List Int32 × Nat) := match W[nx W 0 W.length]?, W[nx W (nx W 0 W.length + 1) W.length]?, W[nx W (nx W (nx W 0 W.length + 1) W.length + 1) W.length]? with
  | some wa, some ws, some wb => if wa.1 = 4 ∧ wIs ws 47 = true ∧ wb.1 = 4 then some (wa.2.2, wb.2.2, nx W (nx W (nx W 0 W.length + 1) W.length + 1) W.length) else none
  | _, _, _ => none
def tyPt (P : Pts) (o : Option (List Int32 × List Int32 × Nat)) : Pts := fun w => if w = 5 then (o.map (fun x => x.1.map sp_small)).toList else if w = 6 then (o.map (fun x => x.2.1.map sp_small)).toList else P w
def tyQs (W : Wds) : List Prm := match tyA W with
  | none => []
  | some x => tyQ W (W.length + 1) (x.2.2 + 1) []
section TYPE2
variable {G : gl_G} {cI cZ : ClassId} {h0 : hp_T} {M : Nat} {W : Wds}
theorem l_Model_tyC (hT : (gl_t G)[0]? = some (cI, .int)) {I : Nat → Int32} {R : Nat → Nat → Int32} {n : Nat} (h18 : I 18 = nI n) (hn : n ≤ 1600) {f a s b : Int32} {Z : Option Value → hp_T → Prop} (K : ev_E G m_Model_type 164 [(0, .ref M), (1, .int f), (2, .int a), (3, .int s), (4, .int b), (5, .int (nI n))] [] (mo_ov cI cZ h0 M I (va_up R 25 (cpr (R 25) (R 12) 0 n))) Z) : ∀ (d k : Nat), k + d = n →
    ev_E G m_Model_type 135 [(0, .ref M), (1, .int f), (2, .int a), (3, .int s), (4, .int b), (5, .int (nI k))] [] (mo_ov cI cZ h0 M I (va_up R 25 (cpr (R 25) (R 12) 0 k))) Z := by
  intro d
  induction d with
  | zero =>
    intro k hk
    have hk4 : k = n := by omega
    subst hk4
    refine ev_iload d_Model_type_135 rfl ?_
    refine ev_aload_n d_Model_type_137 rfl rfl ?_
    refine mo_get (fa_Model_152 rfl rfl) d_Model_type_138 rfl ?_
    rw [h18]
    refine ev_icmp_ge (tgt := 164) d_Model_type_141 (by decide) (fun c_141 => ?_) (fun c_141 => ?_)
    · exact K
    · exact absurd (nI_le (Nat.le_refl _) (by omega)) c_141
  | succ d ih =>
    intro k hk
    have i12 : vp_in (nI k) (mo_len 12) := vp_in_nI (show k < 1600 by omega) (by decide)
    have i25 : vp_in (nI k) (mo_len 25) := vp_in_nI (show k < 1600 by omega) (by decide)
    refine ev_iload d_Model_type_135 rfl ?_
    refine ev_aload_n d_Model_type_137 rfl rfl ?_
    refine mo_get (fa_Model_152 rfl rfl) d_Model_type_138 rfl ?_
    rw [h18]
    refine ev_icmp_ge (tgt := 164) d_Model_type_141 (by decide) (fun c_141 => ?_) (fun c_141 => ?_)
    · exact absurd c_141 (nI_ge (a := k) (b := n) (by omega) (by omega))
    · refine ev_aload_n d_Model_type_144 rfl rfl ?_
      refine mo_get (fa_Model_83 rfl rfl) d_Model_type_145 rfl ?_
      refine ev_iload d_Model_type_148 rfl ?_
      refine ev_aload_n d_Model_type_150 rfl rfl ?_
      refine mo_get (fa_Model_43 rfl rfl) d_Model_type_151 rfl ?_
      refine ev_iload d_Model_type_154 rfl ?_
      refine mo_ald hT d_Model_type_156 (by decide) i12 ?_
      rw [nI_clamp (by omega), up_ne (by decide)]
      refine mo_ast hT d_Model_type_157 (by decide) i25 ?_
      have e := cpr_s (R 25) (R 12) 0 k
      rw [Nat.zero_add] at e
      rw [nI_clamp (by omega), va_up_self, bx_uu, e]
      refine ev_iinc d_Model_type_158 rfl (by decide) ?_
      refine ev_goto (tgt := 135) d_Model_type_161 (by decide) ?_
      rw [show nI k + Int32.ofInt 1 = nI (k + 1) from nI_1 k]
      exact ih (k + 1) (by omega)
theorem l_Model_tyS (hT : (gl_t G)[0]? = some (cI, .int)) {I : Nat → Int32} {R : Nat → Nat → Int32} (hW : wOk W I R) (hl : W.length ≤ 1501) {f a s b : Int32} {Z : Option Value → hp_T → Prop} : ∀ (t : Wds) (k : Nat), W.drop k = t → k + t.length = W.length →
    ev_E G m_Model_type 219 [(0, .ref M), (1, .int f), (2, .int a), (3, .int s), (4, .int b), (5, .int (nI (k + cS t)))] [] (mo_ov cI cZ h0 M I R) Z →
    ev_E G m_Model_type 193 [(0, .ref M), (1, .int f), (2, .int a), (3, .int s), (4, .int b), (5, .int (nI k))] [] (mo_ov cI cZ h0 M I R) Z := by
  intro t
  induction t with
  | nil =>
    intro k hd hk K
    simp only [List.length_nil] at hk
    refine ev_iload d_Model_type_193 rfl ?_
    refine ev_aload_n d_Model_type_195 rfl rfl ?_
    refine mo_get (fa_Model_149 rfl rfl) d_Model_type_196 rfl ?_
    rw [hW.1]
    refine ev_icmp_ge (tgt := 219) d_Model_type_199 (by decide) (fun c_199 => ?_) (fun c_199 => ?_)
    · exact K
    · exact absurd (nI_le (by omega) (by omega)) c_199
  | cons w t ih =>
    intro k hd hk K
    simp only [List.length_cons] at hk
    have hq : W[k]? = some w := by
      have := congrArg (fun l => l[0]?) hd
      simpa using this
    have hd2 : W.drop (k + 1) = t := by
      have := congrArg (fun l => l.drop 1) hd
      simpa [List.drop_drop, Nat.add_comm] using this
    refine ev_iload d_Model_type_193 rfl ?_
    refine ev_aload_n d_Model_type_195 rfl rfl ?_
    refine mo_get (fa_Model_149 rfl rfl) d_Model_type_196 rfl ?_
    rw [hW.1]
    refine ev_icmp_ge (tgt := 219) d_Model_type_199 (by decide) (fun c_199 => ?_) (fun c_199 => ?_)
    · exact absurd c_199 (nI_ge (a := k) (b := W.length) (by omega) (by omega))
    · refine ev_aload_n d_Model_type_202 rfl rfl ?_
      refine ev_iload d_Model_type_203 rfl ?_
      refine ev_bipush (v := 59) d_Model_type_205 (by decide) ?_
      refine mo_Vv [.int (nI k), .int 59] [] ca_Model_type_200 d_Model_type_207 rfl (Nat.le_of_ble_eq_true rfl) (c_Model_is hT hW hl hq 59) ?_
      cases hw : wIs w 59 with
      | true =>
        refine ev_if_ne (tgt := 219) d_Model_type_210 (by decide) (fun _ => ?_) (fun z => absurd (show (1 : Int32) = 0 from z) (by decide))
        rw [show cS (w :: t) = 0 from if_pos hw] at K
        exact K
      | false =>
        refine ev_if_ne (tgt := 219) d_Model_type_210 (by decide) (fun z => absurd rfl z) (fun _ => ?_)
        refine ev_iinc d_Model_type_213 rfl (by decide) ?_
        refine ev_goto (tgt := 193) d_Model_type_216 (by decide) ?_
        rw [show nI k + Int32.ofInt 1 = nI (k + 1) from nI_1 k]
        refine ih (k + 1) hd2 (by omega) ?_
        rw [show cS (w :: t) = cS t + 1 from if_neg (by rw [hw]; decide), show k + (cS t + 1) = k + 1 + cS t by omega] at K
        exact K
theorem l_Model_tyX {I : Nat → Int32} {R : Nat → Nat → Int32} (h12 : I 12 = nI W.length) (hl : W.length ≤ 1501) {f a s b : Int32} {k : Nat} (hk : W.length ≤ k) (hk2 : k ≤ 3010) : ev_E G m_Model_type 184 [(0, .ref M), (1, .int f), (2, .int a), (3, .int s), (4, .int b), (5, .int (nI k))] [] (mo_ov cI cZ h0 M I R) (cr (fun v h' => v = .int 1 ∧ h' = mo_ov cI cZ h0 M I R)) := by
  refine ev_iload d_Model_type_184 rfl ?_
  refine ev_aload_n d_Model_type_186 rfl rfl ?_
  refine mo_get (fa_Model_149 rfl rfl) d_Model_type_187 rfl ?_
  rw [h12]
  refine ev_icmp_ge (tgt := 242) d_Model_type_190 (by decide) (fun _ => ?_) (fun z => absurd (nI_le hk (by omega)) z)
  refine ev_iconst (v := 1) d_Model_type_242 (by decide) ?_
  refine ev_zret d_Model_type_243 rfl rfl ?_
  exact ⟨_, rfl, rfl, rfl⟩
theorem l_Model_tyQ (hT : (gl_t G)[0]? = some (cI, .int)) (hZ : (gl_t G)[1]? = some (cZ, .boolean)) (hl : W.length ≤ 1501) (hb : (wB W).length ≤ 1600) {f a s b : Int32} : ∀ (n k : Nat) (Q : List Prm) (I : Nat → Int32) (R : Nat → Nat → Int32), W.length < k + n → k ≤ 1503 → wOk W I R → hol (R 25) 0 (wB W) → pmOk Q I R → tyI W Q k →
    ev_E G m_Model_type 184 [(0, .ref M), (1, .int f), (2, .int a), (3, .int s), (4, .int b), (5, .int (nI k))] [] (mo_ov cI cZ h0 M I R) (cr (fun v h' => v = .int 1 ∧ ∃ R', h' = mo_ov cI cZ h0 M (upd I 27 (nI (tyQ W n k Q).length)) R' ∧ pmOk (tyQ W n k Q) (upd I 27 (nI (tyQ W n k Q).length)) R' ∧ sm [19, 20, 21, 22, 23, 24] R R')) := by
  intro n
  have same : ∀ (I : Nat → Int32) (v : Int32), I 27 = v → upd I 27 v = I := fun I v h => by
    funext j
    unfold upd
    by_cases hj : j = 27
    · rw [if_pos hj, hj, h]
    · rw [if_neg hj]
  induction n with
  | zero =>
    intro k Q I R hk hk2 hW h25 hQ hI
    refine ev_to (l_Model_tyX hW.1 hl (by omega) (by omega)) ?_
    rintro o h' ⟨v, rfl, rfl, rfl⟩
    refine ⟨_, rfl, rfl, R, ?_, ?_, sm_rf _ _⟩
    · rw [show tyQ W 0 k Q = Q from rfl, same I _ hQ.1]
    · rw [show tyQ W 0 k Q = Q from rfl, same I _ hQ.1]; exact hQ
  | succ n ih =>
    intro k Q I R hk hk2 hW h25 hQ hI
    rcases Nat.lt_or_ge k W.length with hlt | hge
    · have hscn : scn W k ≤ W.length := by
        have := (cS_at (W.drop k)).1
        rw [List.length_drop] at this
        unfold scn
        omega
      have hsk : k ≤ scn W k := Nat.le_add_right _ _
      refine ev_iload d_Model_type_184 rfl ?_
      refine ev_aload_n d_Model_type_186 rfl rfl ?_
      refine mo_get (fa_Model_149 rfl rfl) d_Model_type_187 rfl ?_
      rw [hW.1]
      refine ev_icmp_ge (tgt := 242) d_Model_type_190 (by decide) (fun z => absurd z (nI_ge (a := k) (b := W.length) hlt (by omega))) (fun _ => ?_)
      refine l_Model_tyS hT hW hl (W.drop k) k rfl (by rw [List.length_drop]; omega) ?_
      show ev_E G m_Model_type 219 [(0, .ref M), (1, .int f), (2, .int a), (3, .int s), (4, .int b), (5, .int (nI (scn W k)))] [] _ _
      refine ev_iload d_Model_type_219 rfl ?_
      refine ev_aload_n d_Model_type_221 rfl rfl ?_
      refine mo_get (fa_Model_149 rfl rfl) d_Model_type_222 rfl ?_
      rw [hW.1]
      refine ev_icmp_ge (tgt := 236) d_Model_type_225 (by decide) (fun c_225 => ?_) (fun c_225 => ?_)
      · have hle := (nI_leI (by omega) (by omega)).mp c_225
        have e : tyQ W (n + 1) k Q = Q := if_neg (by omega)
        refine ev_iinc d_Model_type_236 rfl (by decide) ?_
        refine ev_goto (tgt := 184) d_Model_type_239 (by decide) ?_
        rw [show nI (scn W k) + Int32.ofInt 1 = nI (scn W k + 1) from nI_1 _]
        refine ev_to (l_Model_tyX hW.1 hl (by omega) (by omega)) ?_
        rintro o h' ⟨v, rfl, rfl, rfl⟩
        refine ⟨_, rfl, rfl, R, ?_, ?_, sm_rf _ _⟩
        · rw [e, same I _ hQ.1]
        · rw [e, same I _ hQ.1]; exact hQ
      · have hp : scn W k < W.length := by
          rcases Nat.lt_or_ge (scn W k) W.length with q | q
          · exact q
          · exact absurd (nI_le q (by omega)) c_225
        obtain ⟨t1, t2⟩ := tyI_step hI hp
        have t3 := tyI_le hI
        refine ev_aload_n d_Model_type_228 rfl rfl ?_
        refine ev_iload d_Model_type_229 rfl ?_
        refine ev_iconst (v := 1) d_Model_type_231 (by decide) ?_
        refine ev_iadd d_Model_type_232 ?_
        rw [nI_1]
        refine mo_Vn [.int (nI (scn W k + 1))] [] ca_Model_type_353 d_Model_type_233 rfl (Nat.le_of_ble_eq_true rfl) (c_Model_takeParameter hT hZ hW hl hb h25 hQ (by omega) (by omega) (fun q hq => Nat.le_trans (t1 q hq) hb)) (fun h1 z => ?_)
        cases hq : prmAt W (scn W k + 1) with
        | none =>
          rw [hq] at z t2
          have z' : h1 = mo_ov cI cZ h0 M I R := z
          subst z'
          have e : tyQ W (n + 1) k Q = tyQ W n (scn W k + 1) Q := by
            rw [show tyQ W (n + 1) k Q = _ from if_pos hp, hq]
          refine ev_iinc d_Model_type_236 rfl (by decide) ?_
          refine ev_goto (tgt := 184) d_Model_type_239 (by decide) ?_
          rw [show nI (scn W k) + Int32.ofInt 1 = nI (scn W k + 1) from nI_1 _, e]
          exact ih (scn W k + 1) Q I R (by omega) (by omega) hW h25 hQ t2
        | some q =>
          rw [hq] at z t2
          obtain ⟨R1, rfl, p1, p2⟩ := z
          have e : tyQ W (n + 1) k Q = tyQ W n (scn W k + 1) (Q ++ [q]) := by
            rw [show tyQ W (n + 1) k Q = _ from if_pos hp, hq]
          refine ev_iinc d_Model_type_236 rfl (by decide) ?_
          refine ev_goto (tgt := 184) d_Model_type_239 (by decide) ?_
          rw [show nI (scn W k) + Int32.ofInt 1 = nI (scn W k + 1) from nI_1 _, e]
          have K := ih (scn W k + 1) (Q ++ [q]) (upd I 27 (nI (Q.length + 1))) R1 (by omega) (by omega) (wOk_R (wOk_I hW rfl rfl) (fun j j1 j2 => p2 j (by simp; omega))) (by rw [p2 25 (by decide)]; exact h25) p1 t2
          refine ev_to K ?_
          rintro o h' ⟨v, rfl, rfl, R', rfl, r1, r2⟩
          rw [upd_upd] at r1
          exact ⟨_, rfl, rfl, R', by rw [upd_upd], r1, sm_tr p2 r2⟩
    · have e : tyQ W (n + 1) k Q = Q := if_neg (by have : k ≤ scn W k := Nat.le_add_right _ _; omega)
      refine ev_to (l_Model_tyX hW.1 hl hge (by omega)) ?_
      rintro o h' ⟨v, rfl, rfl, rfl⟩
      refine ⟨_, rfl, rfl, R, ?_, ?_, sm_rf _ _⟩
      · rw [e, same I _ hQ.1]
      · rw [e, same I _ hQ.1]; exact hQ
end TYPE2
