/-! the class: identities, strong -/
def idT (w : List Int32) : List (List Int32) := if anyBl w = false ∧ 1 ≤ w.length ∧ w.length ≤ 100 then [w] else []
/-- what an open < has so far, and what is left -/
def idC : Option (List Int32) → List Int32 → List (List Int32)
  | _, [] => []
  | none, x :: t => if x = 60 then idC (some []) t else idC none t
  | some w, x :: t => if x = 62 then idT w ++ idC none t else idC (some (w ++ [x])) t
theorem idC_some : ∀ (l w : List Int32), idC (some w) l = (if cnt (neq 62) l < l.length then idT (w ++ l.take (cnt (neq 62) l)) else []) ++ idC none (l.drop (cnt (neq 62) l + 1))
  | [], w => by simp [idC, cnt]
  | x :: t, w => by
    by_cases hx : x = 62
    · rw [cnt_no (show neq 62 x = false by simp [neq, hx])]
      simp [idC, hx]
    · rw [cnt_yes (show neq 62 x = true by simp [neq, hx])]
      have := idC_some t (w ++ [x])
      simp only [idC, if_neg hx, this, List.length_cons, List.take_succ_cons, List.drop_succ_cons, List.append_assoc, List.singleton_append]
      by_cases hc : cnt (neq 62) t < t.length
      · rw [if_pos hc, if_pos (by omega)]
      · rw [if_neg hc, if_neg (by omega)]
theorem idC_none : ∀ l : List Int32, idC none l = match l.drop (cnt (neq 60) l) with
    | [] => []
    | _ :: t => idC (some []) t
  | [] => by simp [idC, cnt]
  | x :: t => by
    by_cases hx : x = 60
    · rw [cnt_no (show neq 60 x = false by simp [neq, hx])]
      simp [idC, hx]
    · rw [cnt_yes (show neq 60 x = true by simp [neq, hx])]
      have := idC_none t
      simp only [idC, if_neg hx, List.drop_succ_cons]
      exact this
theorem idS_nil (n : Nat) : idS n [] = [] := by
  cases n with
  | zero => rfl
  | succ n => simp [idS]
theorem idC_S : ∀ (n : Nat) (l : List Int32), l.length ≤ n → idC none l = idS n l
  | 0, l, h => by
    have : l = [] := List.length_eq_zero_iff.mp (by omega)
    subst this
    rfl
  | n + 1, l, h => by
    by_cases h0 : l = []
    · subst h0; rw [idS_nil]; rfl
    · rw [idC_none, idS, if_neg h0]
      cases hl : l.drop (cnt (neq 60) l) with
      | nil => simp [cnt, idS_nil]
      | cons x t =>
        have hx : x = 60 := by
          have h1 : l[cnt (neq 60) l]? = some x := by
            have := congrArg (fun z => z[0]?) hl
            simpa using this
          have := cnt_stop (neq 60) l x h1
          simpa [neq] using this
        have hlen : t.length ≤ n := by
          have := congrArg List.length hl
          simp only [List.length_drop, List.length_cons] at this
          omega
        have hc := cnt_le (neq 62) t
        rw [cnt_yes (show neq 62 x = true by rw [hx]; decide)]
        simp only [List.take_succ_cons, List.drop_succ_cons, List.length_cons, List.drop_zero]
        rw [idC_some, idC_S n (t.drop (cnt (neq 62) t + 1)) (by rw [List.length_drop]; omega), List.nil_append]
        congr 1
        by_cases q : cnt (neq 62) t < t.length
        · rw [if_pos q]
          unfold idT
          have e : (t.take (cnt (neq 62) t)).length = cnt (neq 62) t := by rw [List.length_take]; omega
          rw [e]
          by_cases q2 : anyBl (t.take (cnt (neq 62) t)) = false ∧ 1 ≤ cnt (neq 62) t ∧ cnt (neq 62) t ≤ 100
          · rw [if_pos q2, if_pos ⟨by omega, q2.1, by omega, by omega⟩]
          · rw [if_neg q2, if_neg (fun z => q2 ⟨z.2.1, by omega, by omega⟩)]
        · rw [if_neg q, if_neg (fun z => q (by omega))]
theorem anyBl_app : ∀ a b : List Int32, anyBl (a ++ b) = (anyBl a || anyBl b)
  | [], b => rfl
  | x :: a, b => by simp [anyBl, anyBl_app a b, Bool.or_assoc]
theorem rg_in {v : List Int32} {i : Nat} (hi : i < v.length) (hv : v.length < 2 ^ 31) : v[i]? = some (rg v (nI i)) := by
  rw [rg_nat (by omega), List.getD_eq_getElem?_getD, List.getElem?_eq_getElem hi]
  rfl
theorem drop_at {v : List Int32} {i : Nat} (hi : i < v.length) (hv : v.length < 2 ^ 31) : v.drop i = rg v (nI i) :: v.drop (i + 1) := by
  have h1 := rg_in hi hv
  rw [List.getElem?_eq_getElem hi] at h1
  rw [← Option.some.inj h1, List.getElem_cons_drop]
theorem take_at {v : List Int32} {a i : Nat} (ha : a ≤ i) (hi : i < v.length) (hv : v.length < 2 ^ 31) : (v.take (i + 1)).drop a = (v.take i).drop a ++ [rg v (nI i)] := by
  have h1 := rg_in hi hv
  rw [List.getElem?_eq_getElem hi] at h1
  rw [List.take_succ_eq_append_getElem hi, Option.some.inj h1, List.drop_append_of_le_length (by rw [List.length_take]; omega)]
section IDS4
variable {G : gl_G} {cI : ClassId} {X : Nat}
/-- text k of the head's is v -/
def hv5 (σ : rwT) (k : Int32) (v : List Int32) : Prop := szO (σ 8).2.2 k = nI v.length ∧ ∀ i : Int32, btO (σ 6).2.2 (σ 8).2.2 k i = rg v i
theorem hv5_same {σ σ' : rwT} {k : Int32} {v : List Int32} (H : hv5 σ k v) (h6 : (σ' 6).2.2 = (σ 6).2.2) (h8 : (σ' 8).2.2 = (σ 8).2.2) : hv5 σ' k v := by
  unfold hv5
  rw [h6, h8]
  exact H
theorem ly_takeBetween (hNm : gl_nm G) (hT : (gl_t G)[0]? = some (cI, .int)) {k x3 : Int32} {v : List Int32} (hv : v.length ≤ 1501) {a b : Nat} (hb : b ≤ v.length) (hab : b ≤ a + 100) {Ls : List (List Int32)} (hL1 : Ls.flatten.length ≤ 1501) (hL2 : Ls.length ≤ 1501) : ∀ (d i : Nat) (h : hp_T) (σ : rwT), i + d = b → a ≤ i → a < b → anyBl ((v.take i).drop a) = false → tS cI X h σ → h.2.2 (X + 33) = some (.inr (6, [.ref (X + 34)])) → hv5 σ k v → txH σ 34 Ls ((v.take i).drop a) → ev_E G m_Identities_takeBetween 19 [(0, .ref (X + 33)), (1, .ref (X + 5)), (2, .int k), (3, .int x3), (4, .int (nI b)), (5, .int (nI i))] [] h (cn (tP cI X h σ [35, 37] (fun σ' => txH σ' 34 (Ls ++ idT ((v.take b).drop a)) []))) := by
  have m : (34 : Nat) ∈ txs := by decide
  have m5 : (5 : Nat) ∈ txs := by decide
  intro d
  induction d with
  | zero =>
    intro i h σ hi hai haB hbl S hA hV H
    have e : i = b := by omega
    subst e
    refine ev_iload d_Identities_takeBetween_19 rfl ?_
    refine ev_iload d_Identities_takeBetween_21 rfl ?_
    refine ev_icmp_ge (tgt := 66) d_Identities_takeBetween_23 (by decide) (fun _ => ?_) (fun z => absurd (nI_le (by omega) (by omega)) z)
    refine ev_aload_n d_Identities_takeBetween_66 rfl rfl ?_
    refine ev_get (fa_Identities_12 rfl rfl) d_Identities_takeBetween_67 hA rfl ?_
    refine ev_Vn (ci := 3) [] [] ca_Identities_takeBetween_44 d_Identities_takeBetween_70 rfl ((S.2 34 m)) rfl (Nat.le_of_ble_eq_true rfl) (y_close hT S m H (by omega)) (fun h1 z => ?_)
    obtain ⟨σ1, p1, p2, p3, p4⟩ := z
    refine ev_vret d_Identities_takeBetween_73 rfl ?_
    refine ⟨rfl, σ1, p1, p2, fun τ hτ => p3 τ (fun z => hτ (by simp at z; simp [z])), ?_⟩
    have el : ((v.take i).drop a).length = i - a := by rw [List.length_drop, List.length_take]; omega
    rw [idT, if_pos ⟨hbl, by omega, by omega⟩]
    exact p4
  | succ d ih =>
    intro i h σ hi hai haB hbl S hA hV H
    have hX := S.1.2.2
    have el : ((v.take i).drop a).length = i - a := by rw [List.length_drop, List.length_take]; omega
    have ta := take_at hai (show i < v.length by omega) (by omega)
    refine ev_iload d_Identities_takeBetween_19 rfl ?_
    refine ev_iload d_Identities_takeBetween_21 rfl ?_
    refine ev_icmp_ge (tgt := 66) d_Identities_takeBetween_23 (by decide) (fun z => absurd z (nI_ge (by omega) (by omega))) (fun _ => ?_)
    refine ev_aload_n d_Identities_takeBetween_26 rfl rfl ?_
    refine ev_iload_n d_Identities_takeBetween_27 rfl rfl ?_
    refine ev_iload d_Identities_takeBetween_28 rfl ?_
    refine ev_Vv (ci := 3) [.int k, .int (nI i)] [] ca_Identities_takeBetween_25 d_Identities_takeBetween_30 rfl ((S.2 5 m5)) rfl (Nat.le_of_ble_eq_true rfl) (w_byteOf hT S m5 k (nI i)) ?_
    rw [show btO (σ (5 + 1)).2.2 (σ (5 + 3)).2.2 k (nI i) = rg v (nI i) from hV.2 (nI i)]
    generalize hy : rg v (nI i) = y at ta
    refine ev_istore d_Identities_takeBetween_33 (by decide) ?_
    refine ev_iload d_Identities_takeBetween_35 rfl ?_
    refine ev_Nv hNm [.int y] [] cn_Identities_takeBetween_33 d_Identities_takeBetween_37 rfl (Nat.le_of_ble_eq_true rfl) (w_isBlank y) ?_
    by_cases hb2 : y = 32 ∨ y = 9
    · rw [show sp_blank y = 1 from if_pos hb2]
      refine ev_if_eq (tgt := 51) d_Identities_takeBetween_40 (by decide) (fun z => absurd z (by decide)) (fun _ => ?_)
      refine ev_aload_n d_Identities_takeBetween_43 rfl rfl ?_
      refine ev_get (fa_Identities_12 rfl rfl) d_Identities_takeBetween_44 hA rfl ?_
      refine ev_Vn (ci := 3) [] [] ca_Identities_takeBetween_37 d_Identities_takeBetween_47 rfl ((S.2 34 m)) rfl (Nat.le_of_ble_eq_true rfl) (y_dropOpen hT S m H (by omega) (by omega)) (fun h1 z => ?_)
      obtain ⟨σ1, p1, p2, p3, p4⟩ := z
      refine ev_vret d_Identities_takeBetween_50 rfl ?_
      refine ⟨rfl, σ1, p1, p2, fun τ hτ => p3 τ (fun z => hτ (by simp at z; simp [z])), ?_⟩
      have hbad : anyBl ((v.take b).drop a) = true := by
        have e1 : (v.take b).drop a = (v.take (i + 1)).drop a ++ (v.take b).drop (i + 1) := by
          have e2 : v.take (i + 1) = (v.take b).take (i + 1) := by rw [List.take_take, Nat.min_eq_left (by omega)]
          rw [e2]
          have e3 : ((v.take b).drop a) = (((v.take b).take (i + 1)) ++ ((v.take b).drop (i + 1))).drop a := by rw [List.take_append_drop]
          rw [e3, List.drop_append_of_le_length (by rw [List.length_take, List.length_take]; omega)]
        rw [e1, ta, anyBl_app, anyBl_app]
        have : anyBl [y] = true := by simp [anyBl, isBl, hb2]
        simp [this]
      rw [idT, if_neg (fun z => by rw [hbad] at z; cases z.1), List.append_nil]
      exact p4
    · rw [show sp_blank y = 0 from if_neg hb2]
      refine ev_if_eq (tgt := 51) d_Identities_takeBetween_40 (by decide) (fun _ => ?_) (fun z => absurd rfl z)
      refine ev_aload_n d_Identities_takeBetween_51 rfl rfl ?_
      refine ev_get (fa_Identities_12 rfl rfl) d_Identities_takeBetween_52 hA rfl ?_
      refine ev_iload d_Identities_takeBetween_55 rfl ?_
      refine ev_Vn (ci := 3) [.int y] [] ca_Identities_takeBetween_40 d_Identities_takeBetween_57 rfl ((S.2 34 m)) rfl (Nat.le_of_ble_eq_true rfl) (y_put hT S m H (by omega) y) (fun h1 z => ?_)
      obtain ⟨σ1, S1, r1, p1, H1⟩ := z
      have hA1 := rwR_obj S.1 r1 hA (by omega) (nrow (by decide))
      rw [← ta] at H1
      have hbl1 : anyBl ((v.take (i + 1)).drop a) = false := by
        rw [ta, anyBl_app, hbl]
        simp [anyBl, isBl, hb2]
      refine ev_iinc d_Identities_takeBetween_60 rfl (by decide) ?_
      refine ev_goto (tgt := 19) d_Identities_takeBetween_63 (by decide) ?_
      refine ev_as [(0, .ref (X + 33)), (1, .ref (X + 5)), (2, .int k), (3, .int x3), (4, .int (nI b)), (5, .int (nI (i + 1)))] ⟨rfl, rfl, rfl, rfl, rfl, ?_, trivial⟩ (ev_to (ih (i + 1) h1 σ1 (by omega) (by omega) haB hbl1 S1 hA1 (hv5_same hV (p1 6 (by decide)) (p1 8 (by decide))) H1) ?_)
      · show some (Value.int (nI i + Int32.ofInt 1)) = _
        rw [show nI i + Int32.ofInt 1 = nI (i + 1) from nI_1 i]
      · rintro o h' ⟨rfl, σ2, q1, q2, q3, q4⟩
        exact ⟨rfl, σ2, q1, rwR_tr r1 q2, fun τ hτ => (q3 τ hτ).trans (p1 τ (fun z => hτ (by simp at z; simp [z]))), q4⟩
theorem y_takeBetween (hNm : gl_nm G) (hT : (gl_t G)[0]? = some (cI, .int)) {k : Int32} {v : List Int32} (hv : v.length ≤ 1501) {a b : Nat} (hab : a ≤ b) (hb : b ≤ v.length) {Ls : List (List Int32)} (hL1 : Ls.flatten.length ≤ 1501) (hL2 : Ls.length ≤ 1501) {h : hp_T} {σ : rwT} (S : tS cI X h σ) (hA : h.2.2 (X + 33) = some (.inr (6, [.ref (X + 34)]))) (hV : hv5 σ k v) (H : txH σ 34 Ls []) : ct_E G m_Identities_takeBetween [.ref (X + 33), .ref (X + 5), .int k, .int (nI a), .int (nI b)] h (cn (tP cI X h σ [35, 37] (fun σ' => txH σ' 34 (Ls ++ idT ((v.take b).drop a)) []))) := by
  have el : ((v.take b).drop a).length = b - a := by rw [List.length_drop, List.length_take]; omega
  refine ct_of (ws' := tb_all) rfl rfl (Nat.le_of_ble_eq_true rfl) ?_
  refine ev_iload d_Identities_takeBetween_0 rfl ?_
  refine ev_iload_n d_Identities_takeBetween_2 rfl rfl ?_
  refine ev_icmp_le (tgt := 15) d_Identities_takeBetween_3 (by decide) (fun c_3 => ?_) (fun c_3 => ?_)
  · have := (nI_leI (by omega) (by omega)).mp c_3
    refine ev_vret d_Identities_takeBetween_15 rfl ?_
    refine ⟨rfl, σ, S, rwR_rf, fun _ _ => rfl, ?_⟩
    rw [idT, if_neg (fun z => by omega), List.append_nil]
    exact H
  · have hlt : a < b := by
      rcases Nat.lt_or_ge a b with q | q
      · exact q
      · exact absurd (nI_le q (by omega)) c_3
    refine ev_iload d_Identities_takeBetween_6 rfl ?_
    refine ev_iload_n d_Identities_takeBetween_8 rfl rfl ?_
    refine ev_isub d_Identities_takeBetween_9 ?_
    refine ev_bipush (v := 100) d_Identities_takeBetween_10 (by decide) ?_
    rw [pk_sub (show a ≤ b by omega)]
    refine ev_icmp_le (tgt := 16) d_Identities_takeBetween_12 (by decide) (fun c_12 => ?_) (fun c_12 => ?_)
    · have h100 : b - a ≤ 100 := (nI_leI (a := b - a) (b := 100) (by omega) (by omega)).mp c_12
      refine ev_iload_n d_Identities_takeBetween_16 rfl rfl ?_
      refine ev_istore d_Identities_takeBetween_17 (by decide) ?_
      have e0 : (v.take a).drop a = [] := by rw [List.drop_eq_nil_iff, List.length_take]; omega
      exact ly_takeBetween hNm hT hv hb (by omega) hL1 hL2 (b - a) a h σ (by omega) (Nat.le_refl _) hlt (by rw [e0]; rfl) S hA hV (by rw [e0]; exact H)
    · have h100 : ¬ b - a ≤ 100 := fun q => c_12 (nI_le (a := b - a) (b := 100) q (by omega))
      refine ev_vret d_Identities_takeBetween_15 rfl ?_
      refine ⟨rfl, σ, S, rwR_rf, fun _ _ => rfl, ?_⟩
      rw [idT, if_neg (fun z => by omega), List.append_nil]
      exact H
theorem ly_readBytes (hNm : gl_nm G) (hT : (gl_t G)[0]? = some (cI, .int)) {k : Int32} {v : List Int32} (hv : v.length ≤ 1501) : ∀ (d i : Nat) (o : Int32) (st : Option (List Int32)) (Ls : List (List Int32)) (h : hp_T) (σ : rwT), i + d = v.length → (o = -1 ∧ st = none ∧ Ls.flatten.length ≤ i ∨ ∃ j, j < i ∧ o = nI j ∧ st = some ((v.take i).drop (j + 1)) ∧ Ls.flatten.length ≤ j) → Ls.length ≤ i → tS cI X h σ → h.2.2 (X + 33) = some (.inr (6, [.ref (X + 34)])) → hv5 σ k v → txH σ 34 Ls [] → ev_E G m_Identities_readBytes 19 [(0, .ref (X + 33)), (1, .ref (X + 5)), (2, .int k), (3, .int (nI v.length)), (4, .int o), (5, .int (nI i))] [] h (cn (tP cI X h σ [35, 37] (fun σ' => txH σ' 34 (Ls ++ idC st (v.drop i)) []))) := by
  have m5 : (5 : Nat) ∈ txs := by decide
  intro d
  induction d with
  | zero =>
    intro i o st Ls h σ hi ho hl S hA hV H
    refine ev_iload d_Identities_readBytes_19 rfl ?_
    refine ev_iload_n d_Identities_readBytes_21 rfl rfl ?_
    refine ev_icmp_ge (tgt := 88) d_Identities_readBytes_22 (by decide) (fun _ => ?_) (fun z => absurd (nI_le (by omega) (by omega)) z)
    refine ev_vret d_Identities_readBytes_88 rfl ?_
    refine ⟨rfl, σ, S, rwR_rf, fun _ _ => rfl, ?_⟩
    rw [List.drop_eq_nil_of_le (by omega)]
    have : idC st [] = [] := by cases st <;> rfl
    rw [this, List.append_nil]
    exact H
  | succ d ih =>
    intro i o st Ls h σ hi ho hl S hA hV H
    have hX := S.1.2.2
    have da := drop_at (show i < v.length by omega) (by omega)
    -- on at 82
    have on : ∀ (o' y : Int32) (st' : Option (List Int32)) (Ls' : List (List Int32)) (h2 : hp_T) (σ2 : rwT), (o' = -1 ∧ st' = none ∧ Ls'.flatten.length ≤ i + 1 ∨ ∃ j, j < i + 1 ∧ o' = nI j ∧ st' = some ((v.take (i + 1)).drop (j + 1)) ∧ Ls'.flatten.length ≤ j) → Ls'.length ≤ i + 1 → tS cI X h2 σ2 → h2.2.2 (X + 33) = some (.inr (6, [.ref (X + 34)])) → txH σ2 34 Ls' [] → rwR X h σ h2 σ2 → (∀ τ, τ ∉ [35, 37] → (σ2 τ).2.2 = (σ τ).2.2) → Ls' ++ idC st' (v.drop (i + 1)) = Ls ++ idC st (v.drop i) → ev_E G m_Identities_readBytes 82 [(0, .ref (X + 33)), (1, .ref (X + 5)), (2, .int k), (3, .int (nI v.length)), (4, .int o'), (5, .int (nI i)), (6, .int y)] [] h2 (cn (tP cI X h σ [35, 37] (fun σ' => txH σ' 34 (Ls ++ idC st (v.drop i)) []))) := by
      intro o' y st' Ls' h2 σ2 ho' hl' S2 hA2 H2 r2 p2 e2
      refine ev_iinc d_Identities_readBytes_82 rfl (by decide) ?_
      refine ev_goto (tgt := 19) d_Identities_readBytes_85 (by decide) ?_
      refine ev_as [(0, .ref (X + 33)), (1, .ref (X + 5)), (2, .int k), (3, .int (nI v.length)), (4, .int o'), (5, .int (nI (i + 1)))] ⟨rfl, rfl, rfl, rfl, rfl, ?_, trivial⟩ (ev_to (ih (i + 1) o' st' Ls' h2 σ2 (by omega) ho' hl' S2 hA2 (hv5_same hV (p2 6 (by decide)) (p2 8 (by decide))) H2) ?_)
      · show some (Value.int (nI i + Int32.ofInt 1)) = _
        rw [show nI i + Int32.ofInt 1 = nI (i + 1) from nI_1 i]
      · rintro oo h' ⟨rfl, σ3, q1, q2, q3, q4⟩
        rw [e2] at q4
        exact ⟨rfl, σ3, q1, rwR_tr r2 q2, fun τ hτ => (q3 τ hτ).trans (p2 τ hτ), q4⟩
    refine ev_iload d_Identities_readBytes_19 rfl ?_
    refine ev_iload_n d_Identities_readBytes_21 rfl rfl ?_
    refine ev_icmp_ge (tgt := 88) d_Identities_readBytes_22 (by decide) (fun z => absurd z (nI_ge (by omega) (by omega))) (fun _ => ?_)
    refine ev_aload_n d_Identities_readBytes_25 rfl rfl ?_
    refine ev_iload_n d_Identities_readBytes_26 rfl rfl ?_
    refine ev_iload d_Identities_readBytes_27 rfl ?_
    refine ev_Vv (ci := 3) [.int k, .int (nI i)] [] ca_Identities_readBytes_25 d_Identities_readBytes_29 rfl ((S.2 5 m5)) rfl (Nat.le_of_ble_eq_true rfl) (w_byteOf hT S m5 k (nI i)) ?_
    rw [show btO (σ (5 + 1)).2.2 (σ (5 + 3)).2.2 k (nI i) = rg v (nI i) from hV.2 (nI i)]
    generalize hy : rg v (nI i) = y at da
    refine ev_istore d_Identities_readBytes_32 (by decide) ?_
    refine ev_iload d_Identities_readBytes_34 rfl ?_
    refine ev_iconst (v := (-1)) d_Identities_readBytes_36 (by decide) ?_
    rcases ho with ⟨rfl, rfl, hf⟩ | ⟨j, hj, rfl, rfl, hf⟩
    · refine ev_icmp_ne (tgt := 54) d_Identities_readBytes_37 (by decide) (fun z => absurd rfl z) (fun _ => ?_)
      refine ev_iload d_Identities_readBytes_40 rfl ?_
      refine ev_bipush (v := 60) d_Identities_readBytes_42 (by decide) ?_
      by_cases h60 : y = 60
      · refine ev_icmp_ne (tgt := 54) d_Identities_readBytes_44 (by decide) (fun z => absurd h60 z) (fun _ => ?_)
        refine ev_iload d_Identities_readBytes_47 rfl ?_
        refine ev_istore d_Identities_readBytes_49 (by decide) ?_
        refine ev_goto (tgt := 82) d_Identities_readBytes_51 (by decide) ?_
        refine on (nI i) y (some []) Ls h σ (Or.inr ⟨i, by omega, rfl, ?_, hf⟩) (by omega) S hA H rwR_rf (fun _ _ => rfl) ?_
        · congr 1
          rw [eq_comm, List.drop_eq_nil_iff, List.length_take]; omega
        · rw [da, idC, if_pos h60]
      · refine ev_icmp_ne (tgt := 54) d_Identities_readBytes_44 (by decide) (fun _ => ?_) (fun z => absurd z h60)
        refine ev_iload d_Identities_readBytes_54 rfl ?_
        refine ev_iconst (v := (-1)) d_Identities_readBytes_56 (by decide) ?_
        refine ev_icmp_eq (tgt := 82) d_Identities_readBytes_57 (by decide) (fun _ => ?_) (fun z => absurd rfl z)
        refine on (-1) y none Ls h σ (Or.inl ⟨rfl, rfl, by omega⟩) (by omega) S hA H rwR_rf (fun _ _ => rfl) ?_
        rw [da, idC, if_neg h60]
    · have hne : nI j ≠ -1 := fun z => nI_pos (n := j) (by omega) (by rw [z]; decide)
      refine ev_icmp_ne (tgt := 54) d_Identities_readBytes_37 (by decide) (fun _ => ?_) (fun z => absurd z hne)
      refine ev_iload d_Identities_readBytes_54 rfl ?_
      refine ev_iconst (v := (-1)) d_Identities_readBytes_56 (by decide) ?_
      refine ev_icmp_eq (tgt := 82) d_Identities_readBytes_57 (by decide) (fun z => absurd z hne) (fun _ => ?_)
      refine ev_iload d_Identities_readBytes_60 rfl ?_
      refine ev_bipush (v := 62) d_Identities_readBytes_62 (by decide) ?_
      by_cases h62 : y = 62
      · refine ev_icmp_ne (tgt := 82) d_Identities_readBytes_64 (by decide) (fun z => absurd h62 z) (fun _ => ?_)
        refine ev_aload_n d_Identities_readBytes_67 rfl rfl ?_
        refine ev_aload_n d_Identities_readBytes_68 rfl rfl ?_
        refine ev_iload_n d_Identities_readBytes_69 rfl rfl ?_
        refine ev_iload d_Identities_readBytes_70 rfl ?_
        refine ev_iconst (v := 1) d_Identities_readBytes_72 (by decide) ?_
        refine ev_iadd d_Identities_readBytes_73 ?_
        rw [nI_1]
        refine ev_iload d_Identities_readBytes_74 rfl ?_
        refine ev_Vn (ci := 6) [.ref (X + 5), .int k, .int (nI (j + 1)), .int (nI i)] [] ca_Identities_readBytes_29 d_Identities_readBytes_76 rfl (hA) rfl (Nat.le_of_ble_eq_true rfl) (y_takeBetween hNm hT hv (by omega) (by omega) (by omega) (by omega) S hA hV H) (fun h1 z => ?_)
        obtain ⟨σ1, S1, r1, p1, H1⟩ := z
        have hA1 := rwR_obj S.1 r1 hA (by omega) (nrow (by decide))
        have hw : (idT ((v.take i).drop (j + 1))).flatten.length ≤ i - (j + 1) ∧ (idT ((v.take i).drop (j + 1))).length ≤ 1 := by
          unfold idT
          split
          · simp only [List.flatten_cons, List.flatten_nil, List.append_nil, List.length_singleton]
            refine ⟨?_, Nat.le_refl _⟩
            rw [List.length_drop, List.length_take]; omega
          · simp
        refine ev_iconst (v := (-1)) d_Identities_readBytes_79 (by decide) ?_
        refine ev_istore d_Identities_readBytes_80 (by decide) ?_
        refine on (-1) y none _ h1 σ1 (Or.inl ⟨rfl, rfl, ?_⟩) ?_ S1 hA1 H1 r1 p1 ?_
        · rw [List.flatten_append, List.length_append]; omega
        · rw [List.length_append]; omega
        · rw [da, idC, if_pos h62, List.append_assoc]
      · refine ev_icmp_ne (tgt := 82) d_Identities_readBytes_64 (by decide) (fun _ => ?_) (fun z => absurd z h62)
        refine on (nI j) y (some ((v.take (i + 1)).drop (j + 1))) Ls h σ (Or.inr ⟨j, by omega, rfl, rfl, hf⟩) (by omega) S hA H rwR_rf (fun _ _ => rfl) ?_
        rw [da, idC, if_neg h62, take_at (by omega) (by omega) (by omega), hy]
theorem y_readBytes (hNm : gl_nm G) (hT : (gl_t G)[0]? = some (cI, .int)) {k : Int32} {v : List Int32} (hv : v.length ≤ 1501) {h : hp_T} {σ : rwT} (S : tS cI X h σ) (hA : h.2.2 (X + 33) = some (.inr (6, [.ref (X + 34)]))) (hV : hv5 σ k v) : ct_E G m_Identities_readBytes [.ref (X + 33), .ref (X + 5), .int k] h (cn (tP cI X h σ [35, 37] (fun σ' => txH σ' 34 (idS v.length v) []))) := by
  have m : (34 : Nat) ∈ txs := by decide
  have m5 : (5 : Nat) ∈ txs := by decide
  have hX := S.1.2.2
  refine ct_of (ws' := tb_all) rfl rfl (Nat.le_of_ble_eq_true rfl) ?_
  refine ev_aload_n d_Identities_readBytes_0 rfl rfl ?_
  refine ev_get (fa_Identities_12 rfl rfl) d_Identities_readBytes_1 hA rfl ?_
  refine ev_Vn (ci := 3) [] [] ca_Identities_readBytes_18 d_Identities_readBytes_4 rfl ((S.2 34 m)) rfl (Nat.le_of_ble_eq_true rfl) (y_clear S m) (fun h1 z => ?_)
  obtain ⟨σ1, S1, r1, p1, H1⟩ := z
  have hA1 := rwR_obj S.1 r1 hA (by omega) (nrow (by decide))
  have hV1 := hv5_same hV (p1 6 (by decide)) (p1 8 (by decide))
  refine ev_aload_n d_Identities_readBytes_7 rfl rfl ?_
  refine ev_iload_n d_Identities_readBytes_8 rfl rfl ?_
  refine ev_Vv (ci := 3) [.int k] [] ca_Identities_readBytes_21 d_Identities_readBytes_9 rfl ((S1.2 5 m5)) rfl (Nat.le_of_ble_eq_true rfl) (w_sizeOf hT S1 m5 k) ?_
  rw [show szO (σ1 (5 + 3)).2.2 k = nI v.length from hV1.1]
  refine ev_istore_n d_Identities_readBytes_12 rfl (by decide) ?_
  refine ev_iconst (v := (-1)) d_Identities_readBytes_13 (by decide) ?_
  refine ev_istore d_Identities_readBytes_14 (by decide) ?_
  refine ev_iconst (v := 0) d_Identities_readBytes_16 (by decide) ?_
  refine ev_istore d_Identities_readBytes_17 (by decide) ?_
  refine ev_to (ly_readBytes hNm hT hv v.length 0 (-1) none [] h1 σ1 (by omega) (Or.inl ⟨rfl, rfl, Nat.le_refl _⟩) (Nat.le_refl _) S1 hA1 hV1 H1) ?_
  rintro o h' ⟨rfl, σ2, q1, q2, q3, q4⟩
  rw [List.nil_append, List.drop_zero, idC_S v.length v (Nat.le_refl _)] at q4
  exact ⟨rfl, σ2, q1, rwR_tr r1 q2, fun τ hτ => (q3 τ hτ).trans (p1 τ hτ), q4⟩
end IDS4
