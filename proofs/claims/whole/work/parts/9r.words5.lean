section WORDS5
variable {G : gl_G} {cI : ClassId} {X str : Nat} {v : Int32} {ty : Bool}
theorem byt_at {bs : List Int32} (hB : ∀ x ∈ bs, byt x) {i : Nat} (hi : i < bs.length) (hb : bs.length < 2 ^ 31) : byt (rg bs (nI i)) := hB _ (List.mem_of_getElem? (rg_in hi hb))
theorem lz_cutAtom (hT : (gl_t G)[0]? = some (cI, .int)) (hSg : gSs G str ty) {bs : List Int32} (hb : bs.length ≤ 1501) (hB : ∀ x ∈ bs, byt x) {x1 : Int32} {Ws : List (Int32 × List Int32)} (hl1 : Ws.length < 2000) (hl2 : wdB Ws ≤ 1501) {i0 : Nat} : ∀ (d i : Nat) (op : List Int32) (h : hp_T) (σ : rwT), i + d = bs.length → i0 ≤ i → op.length ≤ i → tS cI X h σ → h.2.2 (X + 10) = some (.inr (wdO X 5 str v)) → hv5 σ v bs → wdH σ Ws op → ev_E G m_Words_cutAtom 2 [(0, .ref (X + 10)), (1, .int x1), (2, .int (nI bs.length)), (3, .int (nI i))] [] h (cr (fun y h' => y = .int (nI (i + cnt (isAt ty) (bs.drop i))) ∧ tP cI X h σ [12, 14, 16] (fun σ' => wdH σ' (Ws ++ [(1, op ++ (bs.drop i).take (cnt (isAt ty) (bs.drop i)))]) []) h')) := by
  have m5 : (5 : Nat) ∈ txs := by decide
  have m : (11 : Nat) ∈ txs := by decide
  have fin : ∀ (i : Nat) (op : List Int32) (h : hp_T) (σ : rwT), tS cI X h σ → h.2.2 (X + 10) = some (.inr (wdO X 5 str v)) → wdH σ Ws op → ev_E G m_Words_cutAtom 77 [(0, .ref (X + 10)), (3, .int (nI i))] [] h (cr (fun y h' => y = .int (nI i) ∧ tP cI X h σ [12, 14, 16] (fun σ' => wdH σ' (Ws ++ [(1, op)]) []) h')) := by
    intro i op h σ S hA H
    refine ev_aload_n d_Words_cutAtom_77 rfl rfl ?_
    refine ev_iconst (v := 1) d_Words_cutAtom_78 (by decide) ?_
    refine ev_Vn (ci := 4) [.int 1] [] ca_Words_cutAtom_79 d_Words_cutAtom_79 rfl (hA) rfl (Nat.le_of_ble_eq_true rfl) (z_wclose hT S hA H (by omega) 1) (fun h1 z => ?_)
    refine ev_iload_n d_Words_cutAtom_82 rfl rfl ?_
    refine ev_iret d_Words_cutAtom_83 rfl ?_
    exact ⟨_, rfl, rfl, ‹_›⟩
  intro d
  induction d with
  | zero =>
    intro i op h σ hd hi0 hop S hA hV H
    have e0 : bs.drop i = [] := List.drop_eq_nil_of_le (by omega)
    rw [e0]
    simp only [cnt, List.take_nil, List.append_nil, Nat.add_zero]
    refine ev_iload_n d_Words_cutAtom_2 rfl rfl ?_
    refine ev_iload_n d_Words_cutAtom_3 rfl rfl ?_
    refine ev_icmp_ge (tgt := 77) d_Words_cutAtom_4 (by decide) (fun _ => ?_) (fun z => absurd (nI_le (by omega) (by omega)) z)
    exact ev_as [(0, .ref (X + 10)), (3, .int (nI i))] ⟨rfl, rfl, trivial⟩ (fin i op h σ S hA H)
  | succ d ih =>
    intro i op h σ hd hi0 hop S hA hV H
    have hX := S.1.2.2
    have hlt : i < bs.length := by omega
    have da := drop_at hlt (by omega)
    have hby := byt_at hB hlt (by omega)
    refine ev_iload_n d_Words_cutAtom_2 rfl rfl ?_
    refine ev_iload_n d_Words_cutAtom_3 rfl rfl ?_
    refine ev_icmp_ge (tgt := 77) d_Words_cutAtom_4 (by decide) (fun z => absurd z (nI_ge (by omega) (by omega))) (fun _ => ?_)
    refine ev_aload_n d_Words_cutAtom_7 rfl rfl ?_
    refine ev_get (fa_Words_25 rfl rfl) d_Words_cutAtom_8 hA rfl ?_
    refine ev_aload_n d_Words_cutAtom_11 rfl rfl ?_
    refine ev_get (fa_Words_28 rfl rfl) d_Words_cutAtom_12 hA rfl ?_
    refine ev_iload_n d_Words_cutAtom_15 rfl rfl ?_
    refine ev_Vv (ci := 3) [.int v, .int (nI i)] [] ca_Words_cutAtom_59 d_Words_cutAtom_16 rfl ((S.2 5 m5)) rfl (Nat.le_of_ble_eq_true rfl) (w_byteOf hT S m5 v (nI i)) ?_
    rw [show btO (σ (5 + 1)).2.2 (σ (5 + 3)).2.2 v (nI i) = rg bs (nI i) from hV.2 (nI i)]
    generalize hy : rg bs (nI i) = y at da hby
    have out : isAt ty y = false → ev_E G m_Words_cutAtom 77 [(0, .ref (X + 10)), (1, .int x1), (2, .int (nI bs.length)), (3, .int (nI i)), (4, .int y)] [] h (cr (fun y h' => y = .int (nI (i + cnt (isAt ty) (bs.drop i))) ∧ tP cI X h σ [12, 14, 16] (fun σ' => wdH σ' (Ws ++ [(1, op ++ (bs.drop i).take (cnt (isAt ty) (bs.drop i)))]) []) h')) := by
      intro hf
      rw [da, cnt_no hf, List.take_zero, List.append_nil, Nat.add_zero]
      exact ev_as [(0, .ref (X + 10)), (3, .int (nI i))] ⟨rfl, rfl, trivial⟩ (fin i op h σ S hA H)
    refine ev_istore d_Words_cutAtom_19 (by decide) ?_
    refine ev_iload d_Words_cutAtom_21 rfl ?_
    refine ev_Sv [.int y] [] ca_Words_cutAtom_62 d_Words_cutAtom_23 rfl (Nat.le_of_ble_eq_true rfl) (w_isNothing y) ?_
    by_cases h1 : y ≤ 32 ∨ y = 127
    · rw [if_pos h1]
      refine ev_if_ne (tgt := 77) d_Words_cutAtom_26 (by decide) (fun _ => ?_) (fun z => absurd z (by decide))
      exact out (decide_eq_false fun z => by have := z.1; unfold sp_nothing at this; rw [if_pos h1] at this; exact absurd this (by decide))
    · rw [if_neg h1]
      refine ev_if_ne (tgt := 77) d_Words_cutAtom_26 (by decide) (fun z => absurd rfl z) (fun _ => ?_)
      refine ev_aload_n d_Words_cutAtom_29 rfl rfl ?_
      refine ev_iload d_Words_cutAtom_30 rfl ?_
      refine ev_Vv (ci := 4) [.int y] [] ca_Words_cutAtom_73 d_Words_cutAtom_32 rfl (hA) rfl (Nat.le_of_ble_eq_true rfl) (z_isSign hSg hA hby) ?_
      cases h2 : isSg ty y with
      | true =>
        refine ev_if_ne (tgt := 77) d_Words_cutAtom_35 (by decide) (fun _ => ?_) (fun z => absurd z (by decide))
        exact out (decide_eq_false fun z => by rw [h2] at z; exact absurd z.2.2.2.2 (by decide))
      | false =>
        refine ev_if_ne (tgt := 77) d_Words_cutAtom_35 (by decide) (fun z => absurd rfl z) (fun _ => ?_)
        refine ev_iload d_Words_cutAtom_38 rfl ?_
        refine ev_bipush (v := 40) d_Words_cutAtom_40 (by decide) ?_
        by_cases h40 : y = 40
        · refine ev_icmp_eq (tgt := 77) d_Words_cutAtom_42 (by decide) (fun _ => ?_) (fun z => absurd h40 z)
          exact out (decide_eq_false fun z => z.2.1 h40)
        · refine ev_icmp_eq (tgt := 77) d_Words_cutAtom_42 (by decide) (fun z => absurd z h40) (fun _ => ?_)
          refine ev_iload d_Words_cutAtom_45 rfl ?_
          refine ev_bipush (v := 34) d_Words_cutAtom_47 (by decide) ?_
          by_cases h34 : y = 34
          · refine ev_icmp_eq (tgt := 77) d_Words_cutAtom_49 (by decide) (fun _ => ?_) (fun z => absurd h34 z)
            exact out (decide_eq_false fun z => z.2.2.1 h34)
          · refine ev_icmp_eq (tgt := 77) d_Words_cutAtom_49 (by decide) (fun z => absurd z h34) (fun _ => ?_)
            refine ev_iload d_Words_cutAtom_52 rfl ?_
            refine ev_bipush (v := 91) d_Words_cutAtom_54 (by decide) ?_
            by_cases h91 : y = 91
            · refine ev_icmp_ne (tgt := 62) d_Words_cutAtom_56 (by decide) (fun z => absurd h91 z) (fun _ => ?_)
              refine ev_goto (tgt := 77) d_Words_cutAtom_59 (by decide) ?_
              exact out (decide_eq_false fun z => z.2.2.2.1 h91)
            · refine ev_icmp_ne (tgt := 62) d_Words_cutAtom_56 (by decide) (fun _ => ?_) (fun z => absurd z h91)
              have hat : isAt ty y = true := decide_eq_true ⟨by unfold sp_nothing; rw [if_neg h1], h40, h34, h91, h2⟩
              refine ev_aload_n d_Words_cutAtom_62 rfl rfl ?_
              refine ev_get (fa_Words_12 rfl rfl) d_Words_cutAtom_63 hA rfl ?_
              refine ev_iload d_Words_cutAtom_66 rfl ?_
              refine ev_Vn (ci := 3) [.int y] [] ca_Words_cutAtom_76 d_Words_cutAtom_68 rfl ((S.2 11 m)) rfl (Nat.le_of_ble_eq_true rfl) (y_put hT S m H.1 (by unfold wdB at hl2; omega) y) (fun h1 z => ?_)
              obtain ⟨σ1, S1, r1, p1, H1⟩ := z
              have hA1 := rwR_obj S.1 r1 hA (by omega) (nrow (by decide))
              refine ev_iinc d_Words_cutAtom_71 rfl (by decide) ?_
              refine ev_goto (tgt := 2) d_Words_cutAtom_74 (by decide) ?_
              refine ev_as [(0, .ref (X + 10)), (1, .int x1), (2, .int (nI bs.length)), (3, .int (nI (i + 1)))] ⟨rfl, rfl, rfl, ?_, trivial⟩ (ev_to (ih (i + 1) (op ++ [y]) h1 σ1 (by omega) (by omega) (by rw [List.length_append]; show _ + 1 ≤ _; omega) S1 hA1 (hv5_same hV (p1 6 (by decide)) (p1 8 (by decide))) ⟨H1, (p1 16 (by decide)).trans H.2⟩) ?_)
              · show some (Value.int (nI i + Int32.ofInt 1)) = _
                rw [show nI i + Int32.ofInt 1 = nI (i + 1) from nI_1 i]
              · rintro o h' ⟨x, rfl, rfl, σ2, q2, q3, q4, q5⟩
                rw [da, cnt_yes hat, List.take_succ_cons]
                refine ⟨_, rfl, by rw [show i + 1 + cnt (isAt ty) (bs.drop (i + 1)) = i + (cnt (isAt ty) (bs.drop (i + 1)) + 1) by omega], σ2, q2, rwR_tr r1 q3, fun τ hτ => (q4 τ hτ).trans (p1 τ (fun z => hτ (by simp at z; simp [z]))), ?_⟩
                rw [List.append_assoc, List.singleton_append] at q5
                exact q5
theorem z_cutAtom (hT : (gl_t G)[0]? = some (cI, .int)) (hSg : gSs G str ty) {bs : List Int32} (hb : bs.length ≤ 1501) (hB : ∀ x ∈ bs, byt x) {Ws : List (Int32 × List Int32)} (hl1 : Ws.length < 2000) (hl2 : wdB Ws ≤ 1501) {i : Nat} (hi : i ≤ bs.length) {h : hp_T} {σ : rwT} (S : tS cI X h σ) (hA : h.2.2 (X + 10) = some (.inr (wdO X 5 str v))) (hV : hv5 σ v bs) (H : wdH σ Ws []) : ct_E G m_Words_cutAtom [.ref (X + 10), .int (nI i), .int (nI bs.length)] h (cr (fun y h' => y = .int (nI (i + cnt (isAt ty) (bs.drop i))) ∧ tP cI X h σ [12, 14, 16] (fun σ' => wdH σ' (Ws ++ [(1, (bs.drop i).take (cnt (isAt ty) (bs.drop i)))]) []) h')) := by
  refine ct_of (ws' := tb_all) rfl rfl (Nat.le_of_ble_eq_true rfl) ?_
  refine ev_iload_n d_Words_cutAtom_0 rfl rfl ?_
  refine ev_istore_n d_Words_cutAtom_1 rfl (by decide) ?_
  exact lz_cutAtom hT hSg hb hB hl1 hl2 (bs.length - i) i [] h σ (by omega) (Nat.le_refl _) (Nat.zero_le _) S hA hV H
/-- the first word of what is left, and what is left behind it -/
def w1 (ty kp : Bool) (c : Int32) (t : List Int32) : List (Int32 × List Int32) × List Int32 :=
  if ¬ sp_nothing c = 0 then ([], t)
  else if c = 40 then (bif kp then [(4, (encl true 41 1 t).1)] else [], (encl true 41 1 t).2)
  else if c = 34 then ([(2, (encl false 34 1 t).1)], (encl false 34 1 t).2)
  else if c = 91 then ([(3, (encl false 93 1 t).1)], (encl false 93 1 t).2)
  else if isSg ty c = true then ([(c, [c])], t)
  else ([(1, (c :: t).take (cnt (isAt ty) (c :: t)))], (c :: t).drop (cnt (isAt ty) (c :: t)))
theorem w1_cut (ty kp : Bool) (n : Nat) (c : Int32) (t : List Int32) : cwd kp (wcut ty (n + 1) (c :: t)) = (w1 ty kp c t).1 ++ cwd kp (wcut ty n (w1 ty kp c t).2) := by
  unfold w1
  rw [wcut]
  by_cases h1 : ¬ sp_nothing c = 0
  · rw [if_pos h1, if_pos h1]; rfl
  · rw [if_neg h1, if_neg h1]
    by_cases h2 : c = 40
    · rw [if_pos h2, if_pos h2]
      cases kp
      · simp [cwd]
      · simp [cwd, cK]
    · rw [if_neg h2, if_neg h2]
      by_cases h3 : c = 34
      · rw [if_pos h3, if_pos h3]; simp [cwd, cK]
      · rw [if_neg h3, if_neg h3]
        by_cases h4 : c = 91
        · rw [if_pos h4, if_pos h4]; simp [cwd, cK]
        · rw [if_neg h4, if_neg h4]
          by_cases h5 : isSg ty c = true
          · rw [if_pos h5, if_pos h5]; simp [cwd, cK]
          · rw [if_neg h5, if_neg h5]; simp [cwd, cK]
theorem w1_len (ty kp : Bool) (c : Int32) (t : List Int32) : wdB (w1 ty kp c t).1 + (w1 ty kp c t).2.length ≤ t.length + 1 ∧ (w1 ty kp c t).1.length ≤ 1 ∧ (w1 ty kp c t).2.length ≤ t.length := by
  unfold w1
  by_cases h1 : ¬ sp_nothing c = 0
  · rw [if_pos h1]; simp [wdB]
  · rw [if_neg h1]
    by_cases h2 : c = 40
    · rw [if_pos h2]
      have := encl_len true 41 t.length 1 t (Nat.le_refl _)
      cases kp
      · simp [wdB]; omega
      · simp [wdB]; omega
    · rw [if_neg h2]
      by_cases h3 : c = 34
      · rw [if_pos h3]
        have := encl_len false 34 t.length 1 t (Nat.le_refl _)
        simp [wdB]; omega
      · rw [if_neg h3]
        by_cases h4 : c = 91
        · rw [if_pos h4]
          have := encl_len false 93 t.length 1 t (Nat.le_refl _)
          simp [wdB]; omega
        · rw [if_neg h4]
          by_cases h5 : isSg ty c = true
          · rw [if_pos h5]; simp [wdB]; omega
          · rw [if_neg h5]
            have hat : isAt ty c = true := decide_eq_true ⟨Decidable.not_not.mp h1, h2, h3, h4, by simpa using h5⟩
            have hc := cnt_le (isAt ty) t
            rw [cnt_yes hat]
            simp [wdB]
            omega
theorem z_cutWord (hT : (gl_t G)[0]? = some (cI, .int)) (hSg : gSs G str ty) {bs : List Int32} (hb : bs.length ≤ 1501) (hB : ∀ x ∈ bs, byt x) (kp : Bool) {Ws : List (Int32 × List Int32)} (hl1 : Ws.length < 2000) (hl2 : wdB Ws ≤ 1501) {i : Nat} (hi : i < bs.length) {h : hp_T} {σ : rwT} (S : tS cI X h σ) (hA : h.2.2 (X + 10) = some (.inr (wdO X 5 str v))) (hV : hv5 σ v bs) (H : wdH σ Ws []) : ct_E G m_Words_cutWord [.ref (X + 10), .int (nI i), .int (nI bs.length), .int (bI kp)] h (wgo cI X h σ bs (w1 ty kp (rg bs (nI i)) (bs.drop (i + 1))).2 (i + 1) (Ws ++ (w1 ty kp (rg bs (nI i)) (bs.drop (i + 1))).1)) := by
  have m5 : (5 : Nat) ∈ txs := by decide
  have m : (11 : Nat) ∈ txs := by decide
  have hX := S.1.2.2
  have da := drop_at hi (by omega)
  have hby := byt_at hB hi (by omega)
  refine ct_of (ws' := tb_all) rfl rfl (Nat.le_of_ble_eq_true rfl) ?_
  refine ev_aload_n d_Words_cutWord_0 rfl rfl ?_
  refine ev_get (fa_Words_25 rfl rfl) d_Words_cutWord_1 hA rfl ?_
  refine ev_aload_n d_Words_cutWord_4 rfl rfl ?_
  refine ev_get (fa_Words_28 rfl rfl) d_Words_cutWord_5 hA rfl ?_
  refine ev_iload_n d_Words_cutWord_8 rfl rfl ?_
  refine ev_Vv (ci := 3) [.int v, .int (nI i)] [] ca_Words_cutWord_59 d_Words_cutWord_9 rfl ((S.2 5 m5)) rfl (Nat.le_of_ble_eq_true rfl) (w_byteOf hT S m5 v (nI i)) ?_
  rw [show btO (σ (5 + 1)).2.2 (σ (5 + 3)).2.2 v (nI i) = rg bs (nI i) from hV.2 (nI i)]
  generalize hy : rg bs (nI i) = y at da hby ⊢
  unfold w1
  refine ev_istore d_Words_cutWord_12 (by decide) ?_
  refine ev_iload d_Words_cutWord_14 rfl ?_
  refine ev_Sv [.int y] [] ca_Words_cutWord_62 d_Words_cutWord_16 rfl (Nat.le_of_ble_eq_true rfl) (w_isNothing y) ?_
  by_cases h1 : y ≤ 32 ∨ y = 127
  · have hn : ¬ sp_nothing y = 0 := by unfold sp_nothing; rw [if_pos h1]; decide
    rw [if_pos h1, if_pos hn]
    refine ev_if_eq (tgt := 26) d_Words_cutWord_19 (by decide) (fun z => absurd z (by decide)) (fun _ => ?_)
    refine ev_iload_n d_Words_cutWord_22 rfl rfl ?_
    refine ev_iconst (v := 1) d_Words_cutWord_23 (by decide) ?_
    refine ev_iadd d_Words_cutWord_24 ?_
    rw [nI_1]
    refine ev_iret d_Words_cutWord_25 rfl ?_
    exact ⟨_, rfl, ⟨i + 1, rfl, rfl, Nat.le_refl _, by omega⟩, σ, S, rwR_rf, fun _ _ => rfl, by rw [List.append_nil]; exact H⟩
  · have hn : ¬ ¬ sp_nothing y = 0 := fun z => z (by unfold sp_nothing; rw [if_neg h1])
    rw [if_neg h1, if_neg hn]
    refine ev_if_eq (tgt := 26) d_Words_cutWord_19 (by decide) (fun _ => ?_) (fun z => absurd rfl z)
    refine ev_iload d_Words_cutWord_26 rfl ?_
    refine ev_bipush (v := 40) d_Words_cutWord_28 (by decide) ?_
    by_cases h40 : y = 40
    · rw [if_pos h40]
      refine ev_icmp_ne (tgt := 43) d_Words_cutWord_30 (by decide) (fun z => absurd h40 z) (fun _ => ?_)
      refine ev_aload_n d_Words_cutWord_33 rfl rfl ?_
      refine ev_iload_n d_Words_cutWord_34 rfl rfl ?_
      refine ev_iconst (v := 1) d_Words_cutWord_35 (by decide) ?_
      refine ev_iadd d_Words_cutWord_36 ?_
      refine ev_iload_n d_Words_cutWord_37 rfl rfl ?_
      refine ev_iload_n d_Words_cutWord_38 rfl rfl ?_
      rw [show nI i + 1 = nI (i + 1) from nI_1 i]
      refine ev_Vr (ci := 4) [.int (nI (i + 1)), .int (nI bs.length), .int (bI kp)] [] ca_Words_cutWord_66 d_Words_cutWord_39 rfl (hA) rfl (Nat.le_of_ble_eq_true rfl) (z_cutComment hT hb kp hl1 hl2 (by omega) S hA hV H) (fun v h1 z => ?_)
      obtain ⟨⟨r, rfl, z1⟩, z2⟩ := z
      refine ev_iret d_Words_cutWord_42 rfl ?_
      exact ⟨_, rfl, ⟨r, rfl, z1⟩, z2⟩
    · rw [if_neg h40]
      refine ev_icmp_ne (tgt := 43) d_Words_cutWord_30 (by decide) (fun _ => ?_) (fun z => absurd z h40)
      refine ev_iload d_Words_cutWord_43 rfl ?_
      refine ev_bipush (v := 34) d_Words_cutWord_45 (by decide) ?_
      by_cases h34 : y = 34
      · rw [if_pos h34]
        refine ev_icmp_ne (tgt := 62) d_Words_cutWord_47 (by decide) (fun z => absurd h34 z) (fun _ => ?_)
        refine ev_aload_n d_Words_cutWord_50 rfl rfl ?_
        refine ev_iload_n d_Words_cutWord_51 rfl rfl ?_
        refine ev_iconst (v := 1) d_Words_cutWord_52 (by decide) ?_
        refine ev_iadd d_Words_cutWord_53 ?_
        refine ev_iload_n d_Words_cutWord_54 rfl rfl ?_
        refine ev_bipush (v := 34) d_Words_cutWord_55 (by decide) ?_
        refine ev_iconst (v := 2) d_Words_cutWord_57 (by decide) ?_
        rw [show nI i + 1 = nI (i + 1) from nI_1 i]
        refine ev_Vr (ci := 4) [.int (nI (i + 1)), .int (nI bs.length), .int 34, .int 2] [] ca_Words_cutWord_69 d_Words_cutWord_58 rfl (hA) rfl (Nat.le_of_ble_eq_true rfl) (z_cutEnclosed hT hb (by decide) hl1 hl2 (by omega) S hA hV H) (fun v h1 z => ?_)
        obtain ⟨⟨r, rfl, z1⟩, z2⟩ := z
        refine ev_iret d_Words_cutWord_61 rfl ?_
        exact ⟨_, rfl, ⟨r, rfl, z1⟩, z2⟩
      · rw [if_neg h34]
        refine ev_icmp_ne (tgt := 62) d_Words_cutWord_47 (by decide) (fun _ => ?_) (fun z => absurd z h34)
        refine ev_iload d_Words_cutWord_62 rfl ?_
        refine ev_bipush (v := 91) d_Words_cutWord_64 (by decide) ?_
        by_cases h91 : y = 91
        · rw [if_pos h91]
          refine ev_icmp_ne (tgt := 81) d_Words_cutWord_66 (by decide) (fun z => absurd h91 z) (fun _ => ?_)
          refine ev_aload_n d_Words_cutWord_69 rfl rfl ?_
          refine ev_iload_n d_Words_cutWord_70 rfl rfl ?_
          refine ev_iconst (v := 1) d_Words_cutWord_71 (by decide) ?_
          refine ev_iadd d_Words_cutWord_72 ?_
          refine ev_iload_n d_Words_cutWord_73 rfl rfl ?_
          refine ev_bipush (v := 93) d_Words_cutWord_74 (by decide) ?_
          refine ev_iconst (v := 3) d_Words_cutWord_76 (by decide) ?_
          rw [show nI i + 1 = nI (i + 1) from nI_1 i]
          refine ev_Vr (ci := 4) [.int (nI (i + 1)), .int (nI bs.length), .int 93, .int 3] [] ca_Words_cutWord_69 d_Words_cutWord_77 rfl (hA) rfl (Nat.le_of_ble_eq_true rfl) (z_cutEnclosed hT hb (by decide) hl1 hl2 (by omega) S hA hV H) (fun v h1 z => ?_)
          obtain ⟨⟨r, rfl, z1⟩, z2⟩ := z
          refine ev_iret d_Words_cutWord_80 rfl ?_
          exact ⟨_, rfl, ⟨r, rfl, z1⟩, z2⟩
        · rw [if_neg h91]
          refine ev_icmp_ne (tgt := 81) d_Words_cutWord_66 (by decide) (fun _ => ?_) (fun z => absurd z h91)
          refine ev_aload_n d_Words_cutWord_81 rfl rfl ?_
          refine ev_iload d_Words_cutWord_82 rfl ?_
          refine ev_Vv (ci := 4) [.int y] [] ca_Words_cutWord_73 d_Words_cutWord_84 rfl (hA) rfl (Nat.le_of_ble_eq_true rfl) (z_isSign hSg hA hby) ?_
          cases h2 : isSg ty y with
          | true =>
            rw [if_pos rfl]
            refine ev_if_eq (tgt := 109) d_Words_cutWord_87 (by decide) (fun z => absurd z (by decide)) (fun _ => ?_)
            refine ev_aload_n d_Words_cutWord_90 rfl rfl ?_
            refine ev_get (fa_Words_12 rfl rfl) d_Words_cutWord_91 hA rfl ?_
            refine ev_iload d_Words_cutWord_94 rfl ?_
            refine ev_Vn (ci := 3) [.int y] [] ca_Words_cutWord_76 d_Words_cutWord_96 rfl ((S.2 11 m)) rfl (Nat.le_of_ble_eq_true rfl) (y_put hT S m H.1 (by unfold wdB at hl2; rw [List.length_nil]; omega) y) (fun h1 z => ?_)
            obtain ⟨σ1, S1, r1, p1, H1⟩ := z
            have hA1 := rwR_obj S.1 r1 hA (by omega) (nrow (by decide))
            refine ev_aload_n d_Words_cutWord_99 rfl rfl ?_
            refine ev_iload d_Words_cutWord_100 rfl ?_
            refine ev_Vn (ci := 4) [.int y] [] ca_Words_cutWord_79 d_Words_cutWord_102 rfl (hA1) rfl (Nat.le_of_ble_eq_true rfl) (z_wclose hT S1 hA1 (Ws := Ws) (op := [y]) ⟨H1, (p1 16 (by decide)).trans H.2⟩ (by omega) y) (fun h1 z => ?_)
            obtain ⟨σ2, S2, r2, p2, H2⟩ := z
            refine ev_iload_n d_Words_cutWord_105 rfl rfl ?_
            refine ev_iconst (v := 1) d_Words_cutWord_106 (by decide) ?_
            refine ev_iadd d_Words_cutWord_107 ?_
            rw [nI_1]
            refine ev_iret d_Words_cutWord_108 rfl ?_
            exact ⟨_, rfl, ⟨i + 1, rfl, rfl, Nat.le_refl _, by omega⟩, σ2, S2, rwR_tr r1 r2, fun τ hτ => (p2 τ hτ).trans (p1 τ (fun z => hτ (by simp at z; simp [z]))), H2⟩
          | false =>
            have hat : isAt ty y = true := decide_eq_true ⟨Decidable.not_not.mp hn, h40, h34, h91, h2⟩
            rw [if_neg (by decide)]
            refine ev_if_eq (tgt := 109) d_Words_cutWord_87 (by decide) (fun _ => ?_) (fun z => absurd rfl z)
            refine ev_aload_n d_Words_cutWord_109 rfl rfl ?_
            refine ev_iload_n d_Words_cutWord_110 rfl rfl ?_
            refine ev_iload_n d_Words_cutWord_111 rfl rfl ?_
            refine ev_Vr (ci := 4) [.int (nI i), .int (nI bs.length)] [] ca_Words_cutWord_82 d_Words_cutWord_112 rfl (hA) rfl (Nat.le_of_ble_eq_true rfl) (z_cutAtom hT hSg hb hB hl1 hl2 (by omega) S hA hV H) (fun v h1 z => ?_)
            obtain ⟨rfl, z2⟩ := z
            have hc := cnt_le (isAt ty) (bs.drop (i + 1))
            rw [List.length_drop] at hc
            refine ev_iret d_Words_cutWord_115 rfl ?_
            rw [da] at z2 ⊢
            rw [cnt_yes hat] at z2 ⊢
            refine ⟨_, rfl, ⟨_, rfl, ?_, by omega, by omega⟩, z2⟩
            rw [List.drop_succ_cons, List.drop_drop]
            congr 1
            omega
theorem lz_cut (hT : (gl_t G)[0]? = some (cI, .int)) (hSg : gSs G str ty) {bs : List Int32} (hb : bs.length ≤ 1501) (hB : ∀ x ∈ bs, byt x) {kp : Bool} : ∀ (n i : Nat) (Ws : List (Int32 × List Int32)) (h : hp_T) (σ : rwT), (bs.drop i).length ≤ n → i < 2 ^ 30 → Ws.length + (bs.drop i).length ≤ bs.length → wdB Ws + (bs.drop i).length ≤ bs.length → tS cI X h σ → h.2.2 (X + 10) = some (.inr (wdO X 5 str v)) → hv5 σ v bs → wdH σ Ws [] → ev_E G m_Words_cut 46 [(0, .ref (X + 10)), (4, .int (bI kp)), (5, .int (nI bs.length)), (6, .int (nI i))] [] h (cn (tP cI X h σ [12, 14, 16] (fun σ' => wdH σ' (Ws ++ cwd kp (wcut ty n (bs.drop i))) []))) := by
  intro n
  induction n with
  | zero =>
    intro i Ws h σ hn hi hl1 hl2 S hA hV H
    rw [List.length_drop] at hn
    refine ev_iload d_Words_cut_46 rfl ?_
    refine ev_iload d_Words_cut_48 rfl ?_
    refine ev_icmp_ge (tgt := 75) d_Words_cut_50 (by decide) (fun _ => ?_) (fun z => absurd (nI_le (by omega) (by omega)) z)
    refine ev_vret d_Words_cut_75 rfl ?_
    refine ⟨rfl, σ, S, rwR_rf, fun _ _ => rfl, ?_⟩
    rw [wcut, cwd, List.append_nil]
    exact H
  | succ n ih =>
    intro i Ws h σ hn hi hl1 hl2 S hA hV H
    have hX := S.1.2.2
    refine ev_iload d_Words_cut_46 rfl ?_
    refine ev_iload d_Words_cut_48 rfl ?_
    refine ev_icmp_ge (tgt := 75) d_Words_cut_50 (by decide) (fun c50 => ?_) (fun c50 => ?_)
    · have hge := (nI_leI (by omega) (by omega)).mp c50
      refine ev_vret d_Words_cut_75 rfl ?_
      refine ⟨rfl, σ, S, rwR_rf, fun _ _ => rfl, ?_⟩
      rw [List.drop_eq_nil_of_le hge, wcut, cwd, List.append_nil]
      exact H
    have hlt : i < bs.length := Nat.lt_of_not_le (fun q => c50 (nI_le q (by omega)))
    have da := drop_at hlt (by omega)
    rw [da, List.length_cons] at hn hl1 hl2
    obtain ⟨g1, g2, g3⟩ := w1_len ty kp (rg bs (nI i)) (bs.drop (i + 1))
    refine ev_iload d_Words_cut_53 rfl ?_
    refine ev_iconst (v := 1) d_Words_cut_55 (by decide) ?_
    refine ev_iadd d_Words_cut_56 ?_
    refine ev_aload_n d_Words_cut_57 rfl rfl ?_
    refine ev_iload d_Words_cut_58 rfl ?_
    refine ev_iload d_Words_cut_60 rfl ?_
    refine ev_iload d_Words_cut_62 rfl ?_
    rw [show nI i + 1 = nI (i + 1) from nI_1 i]
    refine ev_Vr (ci := 4) [.int (nI i), .int (nI bs.length), .int (bI kp)] [.int (nI (i + 1))] ca_Words_cut_49 d_Words_cut_64 rfl (hA) rfl (Nat.le_of_ble_eq_true rfl) (z_cutWord hT hSg hb hB kp (by omega) (by omega) hlt S hA hV H) (fun v h1 z => ?_)
    obtain ⟨⟨r, rfl, hr, hr1, hr2⟩, σ1, S1, r1, p1, H1⟩ := z
    have hA1 := rwR_obj S.1 r1 hA (by omega) (nrow (by decide))
    refine ev_mmax (List.mem_cons_of_mem _ tw_695) (List.mem_cons_of_mem _ tw_636) (List.mem_cons_of_mem _ tw_6) (List.mem_cons_of_mem _ tw_637) (by decide) (Nat.le_of_ble_eq_true rfl) d_Words_cut_67 ?_
    have hm : (if nI (i + 1) < nI r then nI r else nI (i + 1)) = nI r := by
      by_cases q : nI (i + 1) < nI r
      · rw [if_pos q]
      · rw [if_neg q]
        have : ¬ i + 1 < r := fun z => q (nI_lt z (by omega))
        rw [show i + 1 = r by omega]
    rw [hm]
    refine ev_istore d_Words_cut_70 (by decide) ?_
    refine ev_goto (tgt := 46) d_Words_cut_72 (by decide) ?_
    refine ev_as [(0, .ref (X + 10)), (4, .int (bI kp)), (5, .int (nI bs.length)), (6, .int (nI r))] ⟨rfl, rfl, rfl, rfl, trivial⟩ (ev_to (ih r _ h1 σ1 (by rw [hr]; omega) (by omega) (by rw [hr, List.length_append]; omega) (by rw [hr, wdB_app]; omega) S1 hA1 (hv5_same hV (p1 6 (by decide)) (p1 8 (by decide))) H1) ?_)
    rintro o h' ⟨rfl, σ2, q2, q3, q4, q5⟩
    refine ⟨rfl, σ2, q2, rwR_tr r1 q3, fun τ hτ => (q4 τ hτ).trans (p1 τ hτ), ?_⟩
    rw [da, w1_cut, ← List.append_assoc, ← hr]
    exact q5
/-- words cut, strong -/
theorem z_cut (hT : (gl_t G)[0]? = some (cI, .int)) (hSg : gSs G str ty) {bs : List Int32} (hb : bs.length ≤ 1501) (hB : ∀ x ∈ bs, byt x) (kp : Bool) {h : hp_T} {σ : rwT} (S : tS cI X h σ) {a b c : Value} (hA : h.2.2 (X + 10) = some (.inr (4, [.ref (X + 11), .ref (X + 16), a, b, c]))) (hV : hv5 σ v bs) : ct_E G m_Words_cut [.ref (X + 10), .ref (X + 5), .int v, .ref str, .int (bI kp)] h (cn (fun h' => h'.2.2 (X + 10) = some (.inr (wdO X 5 str v)) ∧ ∃ σ', tS cI X h' σ' ∧ kR [X + 10] X h σ h' σ' ∧ (∀ τ, τ ∉ [12, 14, 16] → (σ' τ).2.2 = (σ τ).2.2) ∧ wdH σ' (cwd kp (wcut ty bs.length bs)) [])) := by
  have m : (11 : Nat) ∈ txs := by decide
  have m5 : (5 : Nat) ∈ txs := by decide
  have m16 : (16 : Nat) ∈ rws := by decide
  have hX := S.1.2.2
  refine ct_of (ws' := tb_all) rfl rfl (Nat.le_of_ble_eq_true rfl) ?_
  refine ev_aload_n d_Words_cut_0 rfl rfl ?_
  refine ev_get (fa_Words_12 rfl rfl) d_Words_cut_1 hA rfl ?_
  refine ev_Vn (ci := 3) [] [] ca_Words_cut_38 d_Words_cut_4 rfl ((S.2 11 m)) rfl (Nat.le_of_ble_eq_true rfl) (y_clear S m) (fun h1 z => ?_)
  obtain ⟨σ1, S1, r1, p1, H1⟩ := z
  have hA1 := rwR_obj S.1 r1 hA (by omega) (nrow (by decide))
  refine ev_aload_n d_Words_cut_7 rfl rfl ?_
  refine ev_get (fa_Words_21 rfl rfl) d_Words_cut_8 hA1 rfl ?_
  refine ev_iconst (v := 0) d_Words_cut_11 (by decide) ?_
  refine ev_Vn (ci := 1) [.int 0] [] ca_Words_cut_41 d_Words_cut_12 rfl ((S1.1.1 _ m16).1.1) rfl (Nat.le_of_ble_eq_true rfl) (w_rcut S1 m16 0) (fun h1 z => ?_)
  obtain ⟨σ2, S2, r2, p2, q2⟩ := z
  have hX1 := S1.1.2.2
  have hA2 := rwR_obj S1.1 r2 hA1 (by omega) (nrow (by decide))
  have H2 : wdH σ2 [] [] := ⟨txH_same H1 (p2 12 (by decide)) (p2 14 (by decide)), by rw [q2]; rfl⟩
  refine ev_aload_n d_Words_cut_15 rfl rfl ?_
  refine ev_aload_n d_Words_cut_16 rfl rfl ?_
  refine ev_put (fp_Words_25 rfl rfl) d_Words_cut_17 hA2 (Nat.le_of_ble_eq_true rfl) rfl rfl ?_
  refine ev_aload_n d_Words_cut_20 rfl rfl ?_
  refine ev_iload_n d_Words_cut_21 rfl rfl ?_
  refine ev_put (fp_Words_28 rfl rfl) d_Words_cut_22 (hp_up_self _ _ _) (Nat.le_of_ble_eq_true rfl) rfl rfl ?_
  rw [hp_up_up]
  refine ev_aload_n d_Words_cut_25 rfl rfl ?_
  refine ev_aload_n d_Words_cut_26 rfl rfl ?_
  refine ev_put (fp_Words_34 rfl rfl) d_Words_cut_27 (hp_up_self _ _ _) (Nat.le_of_ble_eq_true rfl) rfl rfl ?_
  rw [hp_up_up]
  show ev_E G m_Words_cut 30 _ _ (hp_up h1 (X + 10) (.inr (wdO X 5 str v))) _
  have S3 : tS cI X (hp_up h1 (X + 10) (.inr (wdO X 5 str v))) σ2 := tS_up S2 hA2 (by decide) (by decide)
  have hV2 : hv5 σ2 v bs := hv5_same hV ((p2 6 (by decide)).trans (p1 6 (by decide))) ((p2 8 (by decide)).trans (p1 8 (by decide)))
  refine ev_aload_n d_Words_cut_30 rfl rfl ?_
  refine ev_get (fa_Words_25 rfl rfl) d_Words_cut_31 (hp_up_self _ _ _) rfl ?_
  refine ev_aload_n d_Words_cut_34 rfl rfl ?_
  refine ev_get (fa_Words_28 rfl rfl) d_Words_cut_35 (hp_up_self _ _ _) rfl ?_
  refine ev_Vv (ci := 3) [.int v] [] ca_Words_cut_45 d_Words_cut_38 rfl ((S3.2 5 m5)) rfl (Nat.le_of_ble_eq_true rfl) (w_sizeOf hT S3 m5 v) ?_
  rw [show szO (σ2 (5 + 3)).2.2 v = nI bs.length from hV2.1]
  have k3 : kR [X + 10] X h σ (hp_up h1 (X + 10) (.inr (wdO X 5 str v))) σ2 := kR_tr (kR_of (rwR_tr r1 r2)) (kR_up (by simp))
  have q3 : ∀ τ, τ ∉ [12, 14, 16] → (σ2 τ).2.2 = (σ τ).2.2 := fun τ hτ => (p2 τ (fun z => hτ (by simp at z; simp [z]))).trans (p1 τ (fun z => hτ (by simp at z; rcases z with z | z <;> simp [z])))
  have hX2 := S3.1.2.2
  refine ev_istore d_Words_cut_41 (by decide) ?_
  refine ev_iconst (v := 0) d_Words_cut_43 (by decide) ?_
  refine ev_istore d_Words_cut_44 (by decide) ?_
  refine ev_as [(0, .ref (X + 10)), (4, .int (bI kp)), (5, .int (nI bs.length)), (6, .int (nI 0))] ⟨rfl, rfl, rfl, rfl, trivial⟩ (ev_to (lz_cut hT hSg hb hB bs.length 0 [] _ σ2 (by simp) (by omega) (by simp) (by simp [wdB]) S3 (hp_up_self _ _ _) hV2 H2) ?_)
  rintro o h' ⟨rfl, σ', p3, p4, p5, p6⟩
  exact ⟨rfl, rwR_obj S3.1 p4 (hp_up_self _ _ _) (by omega) (nrow (by decide)), σ', p3, kR_tr k3 (kR_of p4), fun τ hτ => (p5 τ hτ).trans (q3 τ hτ), p6⟩
end WORDS5
