/-! the class: words, strong -/
/-- the class's kind of a word of the reference -/
def cK (w : Int32 × Int32 × List Int32) : Int32 := if w.1 = 3 then w.2.1 else if w.1 = 4 then 1 else if w.1 = 1 then 2 else if w.1 = 2 then 3 else 4
/-- the class's words -/
def cwd (keep : Bool) : Wds → List (Int32 × List Int32)
  | [] => []
  | w :: W => if keep = true ∨ ¬ w.1 = 0 then (cK w, w.2.2) :: cwd keep W else cwd keep W
/-- these words, and an open one, stand in the rows of words -/
def wdH (σ : rwT) (Ws : List (Int32 × List Int32)) (op : List Int32) : Prop := txH σ 11 (Ws.map (fun w => w.2)) op ∧ (σ 16).2.2 = Ws.map (fun w => w.1)
def wdB (Ws : List (Int32 × List Int32)) : Nat := (Ws.map (fun w => w.2)).flatten.length
/-- the signs of a text -/
def gSs (G : gl_G) (str : Nat) (ty : Bool) : Prop := (∀ U : State, gl_L G U → va_O "java/lang/String" str (gl_A G) U U.heap) ∧ ∀ (h : hp_T) (c : Int32), byt c → ct_E G m_String_indexOf [.ref str, .int (c.toUInt32 % 65536).toInt32] h (cr (fun y h' => (∃ q : Int32, y = .int q ∧ (q < 0 ↔ isSg ty c = false)) ∧ h' = h))
section WORDS4
variable {G : gl_G} {cI : ClassId} {X str : Nat} {v : Int32} {ty : Bool}
theorem wdB_app (A B : List (Int32 × List Int32)) : wdB (A ++ B) = wdB A + wdB B := by simp [wdB]
theorem wdB_one (k : Int32) (l : List Int32) : wdB [(k, l)] = l.length := by simp [wdB]
theorem z_wclose (hT : (gl_t G)[0]? = some (cI, .int)) {h : hp_T} {σ : rwT} (S : tS cI X h σ) (hA : h.2.2 (X + 10) = some (.inr (wdO X 5 str v))) {Ws : List (Int32 × List Int32)} {op : List Int32} (H : wdH σ Ws op) (hl : Ws.length + 1 < 4096) (k : Int32) : ct_E G m_Words_close [.ref (X + 10), .int k] h (cn (tP cI X h σ [12, 14, 16] (fun σ' => wdH σ' (Ws ++ [(k, op)]) []))) := by
  have m : (11 : Nat) ∈ txs := by decide
  have m16 : (16 : Nat) ∈ rws := by decide
  have hX := S.1.2.2
  refine ct_of (ws' := tb_all) rfl rfl (Nat.le_of_ble_eq_true rfl) ?_
  refine ev_aload_n d_Words_close_0 rfl rfl ?_
  refine ev_get (fa_Words_12 rfl rfl) d_Words_close_1 hA rfl ?_
  refine ev_Vn (ci := 3) [] [] ca_Words_close_92 d_Words_close_4 rfl ((S.2 11 m)) rfl (Nat.le_of_ble_eq_true rfl) (y_close hT S m H.1 (by rw [List.length_map]; exact hl)) (fun h1 z => ?_)
  obtain ⟨σ1, S1, r1, p1, H1⟩ := z
  have hA1 := rwR_obj S.1 r1 hA (by omega) (nrow (by decide))
  refine ev_aload_n d_Words_close_7 rfl rfl ?_
  refine ev_get (fa_Words_21 rfl rfl) d_Words_close_8 hA1 rfl ?_
  refine ev_iload_n d_Words_close_11 rfl rfl ?_
  refine ev_Vn (ci := 1) [.int k] [] ca_Words_close_94 d_Words_close_12 rfl ((S1.1.1 _ m16).1.1) rfl (Nat.le_of_ble_eq_true rfl) (w_radd hT S1 m16 k) (fun h1 z => ?_)
  obtain ⟨σ2, S2, r2, p2, q2⟩ := z
  refine ev_vret d_Words_close_15 rfl ?_
  refine ⟨rfl, σ2, S2, rwR_tr r1 r2, fun τ hτ => (p2 τ (fun z => hτ (by simp at z; simp [z]))).trans (p1 τ (fun z => hτ (by simp at z; simp [z]))), ?_, ?_⟩
  · have := txH_same H1 (p2 12 (by decide)) (p2 14 (by decide))
    rw [List.map_append]
    exact this
  · rw [q2, p1 16 (by decide), H.2, addR, if_pos (by rw [List.length_map]; omega), List.map_append]
    rfl
theorem z_putWithin (hT : (gl_t G)[0]? = some (cI, .int)) {h : hp_T} {σ : rwT} (S : tS cI X h σ) (hA : h.2.2 (X + 10) = some (.inr (wdO X 5 str v))) {bs : List Int32} (hb : bs.length < 2 ^ 30) (hV : hv5 σ v bs) {Ws : List (Int32 × List Int32)} {op : List Int32} (H : wdH σ Ws op) (hl : wdB Ws + op.length < 4096) {i : Nat} (hi : i < 2 ^ 31) : ct_E G m_Words_putWithin [.ref (X + 10), .int (nI i), .int (nI bs.length)] h (cn (tP cI X h σ [12, 14, 16] (fun σ' => wdH σ' Ws (op ++ (bs.drop i).take 1)))) := by
  have m : (11 : Nat) ∈ txs := by decide
  have m5 : (5 : Nat) ∈ txs := by decide
  refine ct_of (ws' := tb_all) rfl rfl (Nat.le_of_ble_eq_true rfl) ?_
  refine ev_iload_n d_Words_putWithin_0 rfl rfl ?_
  refine ev_iload_n d_Words_putWithin_1 rfl rfl ?_
  refine ev_icmp_ge (tgt := 24) d_Words_putWithin_2 (by decide) (fun c_2 => ?_) (fun c_2 => ?_)
  · have := (nI_leI (by omega) hi).mp c_2
    refine ev_vret d_Words_putWithin_24 rfl ?_
    refine ⟨rfl, σ, S, rwR_rf, fun _ _ => rfl, ?_⟩
    rw [List.drop_eq_nil_of_le this]
    simpa using H
  · have hlt : i < bs.length := Nat.lt_of_not_le (fun q => c_2 (nI_le q hi))
    refine ev_aload_n d_Words_putWithin_5 rfl rfl ?_
    refine ev_get (fa_Words_12 rfl rfl) d_Words_putWithin_6 hA rfl ?_
    refine ev_aload_n d_Words_putWithin_9 rfl rfl ?_
    refine ev_get (fa_Words_25 rfl rfl) d_Words_putWithin_10 hA rfl ?_
    refine ev_aload_n d_Words_putWithin_13 rfl rfl ?_
    refine ev_get (fa_Words_28 rfl rfl) d_Words_putWithin_14 hA rfl ?_
    refine ev_iload_n d_Words_putWithin_17 rfl rfl ?_
    refine ev_Vv (ci := 3) [.int v, .int (nI i)] [.ref (X + 11)] ca_Words_putWithin_59 d_Words_putWithin_18 rfl ((S.2 5 m5)) rfl (Nat.le_of_ble_eq_true rfl) (w_byteOf hT S m5 v (nI i)) ?_
    rw [show btO (σ (5 + 1)).2.2 (σ (5 + 3)).2.2 v (nI i) = rg bs (nI i) from hV.2 (nI i)]
    refine ev_Vn (ci := 3) [.int _] [] ca_Words_putWithin_76 d_Words_putWithin_21 rfl ((S.2 11 m)) rfl (Nat.le_of_ble_eq_true rfl) (y_put hT S m H.1 (by unfold wdB at hl; omega) _) (fun h1 z => ?_)
    obtain ⟨σ1, S1, r1, p1, H1⟩ := z
    refine ev_vret d_Words_putWithin_24 rfl ?_
    refine ⟨rfl, σ1, S1, r1, fun τ hτ => p1 τ (fun z => hτ (by simp at z; simp [z])), ?_, (p1 16 (by decide)).trans H.2⟩
    rw [drop_at hlt (by omega)]
    exact H1
theorem z_isSign (hSg : gSs G str ty) {h : hp_T} {u : Nat} (hA : h.2.2 (X + 10) = some (.inr (wdO X u str v))) {c : Int32} (hc : byt c) : ct_E G m_Words_isSign [.ref (X + 10), .int c] h (cv (.int (bI (isSg ty c))) h) := by
  refine ct_of (ws' := tb_all) rfl rfl (Nat.le_of_ble_eq_true rfl) ?_
  refine ev_aload_n d_Words_isSign_0 rfl rfl ?_
  refine ev_get (fa_Words_34 rfl rfl) d_Words_isSign_1 hA rfl ?_
  refine ev_iload_n d_Words_isSign_4 rfl rfl ?_
  refine ev_i2c d_Words_isSign_5 ?_
  refine ev_Br [.int _] [] ca_Words_isSign_97 d_Words_isSign_6 hSg.1 rfl (Nat.le_of_ble_eq_true rfl) (hSg.2 h c hc) (fun x h1 z => ?_)
  obtain ⟨⟨q, rfl, hq⟩, z⟩ := z
  obtain rfl := z.symm
  refine ev_if_lt (tgt := 16) d_Words_isSign_9 (by decide) (fun c_9 => ?_) (fun c_9 => ?_)
  · rw [hq.mp c_9]
    refine ev_iconst (v := 0) d_Words_isSign_16 (by decide) ?_
    refine ev_zret d_Words_isSign_17 rfl rfl ?_
    exact ⟨rfl, rfl⟩
  · have e : isSg ty c = true := by
      cases he : isSg ty c with
      | true => rfl
      | false => exact absurd (hq.mpr he) c_9
    rw [e]
    refine ev_iconst (v := 1) d_Words_isSign_12 (by decide) ?_
    refine ev_goto (tgt := 17) d_Words_isSign_13 (by decide) ?_
    refine ev_zret d_Words_isSign_17 rfl rfl ?_
    exact ⟨rfl, rfl⟩
/-- answers where to go on -/
def wgo (cI : ClassId) (X : Nat) (h : hp_T) (σ : rwT) (bs rest : List Int32) (i0 : Nat) (Ws : List (Int32 × List Int32)) : Option Value → hp_T → Prop := cr (fun y h' => (∃ r : Nat, y = .int (nI r) ∧ bs.drop r = rest ∧ i0 ≤ r ∧ r ≤ bs.length + 3) ∧ tP cI X h σ [12, 14, 16] (fun σ' => wdH σ' Ws []) h')
theorem lz_cutEnclosed (hT : (gl_t G)[0]? = some (cI, .int)) {bs : List Int32} (hb : bs.length ≤ 1501) {x1 la kd : Int32} (hla : ¬ la = 92) {Ws : List (Int32 × List Int32)} (hl1 : Ws.length < 2000) (hl2 : wdB Ws ≤ 1501) {i0 : Nat} : ∀ (d i : Nat) (op : List Int32) (h : hp_T) (σ : rwT), bs.length ≤ i + d → i ≤ bs.length + 1 → i0 ≤ i → op.length ≤ i → tS cI X h σ → h.2.2 (X + 10) = some (.inr (wdO X 5 str v)) → hv5 σ v bs → wdH σ Ws op → ev_E G m_Words_cutEnclosed 3 [(0, .ref (X + 10)), (1, .int x1), (2, .int (nI bs.length)), (3, .int la), (4, .int kd), (5, .int (nI i))] [] h (wgo cI X h σ bs (encl false la 1 (bs.drop i)).2 i0 (Ws ++ [(kd, op ++ (encl false la 1 (bs.drop i)).1)])) := by
  have m5 : (5 : Nat) ∈ txs := by decide
  have fin : ∀ (i : Nat) (op rest : List Int32) (h : hp_T) (σ : rwT), i ≤ bs.length + 1 → i0 ≤ i → bs.drop (i + 1) = rest → tS cI X h σ → h.2.2 (X + 10) = some (.inr (wdO X 5 str v)) → wdH σ Ws op → ev_E G m_Words_cutEnclosed 56 [(0, .ref (X + 10)), (4, .int kd), (5, .int (nI i))] [] h (wgo cI X h σ bs rest i0 (Ws ++ [(kd, op)])) := by
    intro i op rest h σ hi hi0 hr S hA H
    refine ev_aload_n d_Words_cutEnclosed_56 rfl rfl ?_
    refine ev_iload d_Words_cutEnclosed_57 rfl ?_
    refine ev_Vn (ci := 4) [.int kd] [] ca_Words_cutEnclosed_79 d_Words_cutEnclosed_59 rfl (hA) rfl (Nat.le_of_ble_eq_true rfl) (z_wclose hT S hA H (by omega) kd) (fun h1 z => ?_)
    refine ev_iload d_Words_cutEnclosed_62 rfl ?_
    refine ev_iconst (v := 1) d_Words_cutEnclosed_64 (by decide) ?_
    refine ev_iadd d_Words_cutEnclosed_65 ?_
    rw [nI_1]
    refine ev_iret d_Words_cutEnclosed_66 rfl ?_
    exact ⟨_, rfl, ⟨i + 1, rfl, hr, by omega, by omega⟩, ‹_›⟩
  intro d
  induction d using Nat.strongRecOn with
  | ind d ih =>
    intro i op h σ hd hi hi0 hop S hA hV H
    have hX := S.1.2.2
    refine ev_iload d_Words_cutEnclosed_3 rfl ?_
    refine ev_iload_n d_Words_cutEnclosed_5 rfl rfl ?_
    refine ev_icmp_ge (tgt := 56) d_Words_cutEnclosed_6 (by decide) (fun c6 => ?_) (fun c6 => ?_)
    · have hge := (nI_leI (by omega) (by omega)).mp c6
      have e0 : bs.drop i = [] := List.drop_eq_nil_of_le hge
      rw [e0]
      simp only [encl, List.append_nil]
      exact ev_as [(0, .ref (X + 10)), (4, .int kd), (5, .int (nI i))] ⟨rfl, rfl, rfl, trivial⟩ (fin i op [] h σ hi hi0 (List.drop_eq_nil_of_le (by omega)) S hA H)
    have hlt : i < bs.length := Nat.lt_of_not_le (fun q => c6 (nI_le q (by omega)))
    have da := drop_at hlt (by omega)
    refine ev_aload_n d_Words_cutEnclosed_9 rfl rfl ?_
    refine ev_get (fa_Words_25 rfl rfl) d_Words_cutEnclosed_10 hA rfl ?_
    refine ev_aload_n d_Words_cutEnclosed_13 rfl rfl ?_
    refine ev_get (fa_Words_28 rfl rfl) d_Words_cutEnclosed_14 hA rfl ?_
    refine ev_iload d_Words_cutEnclosed_17 rfl ?_
    refine ev_Vv (ci := 3) [.int v, .int (nI i)] [] ca_Words_cutEnclosed_59 d_Words_cutEnclosed_19 rfl ((S.2 5 m5)) rfl (Nat.le_of_ble_eq_true rfl) (w_byteOf hT S m5 v (nI i)) ?_
    rw [show btO (σ (5 + 1)).2.2 (σ (5 + 3)).2.2 v (nI i) = rg bs (nI i) from hV.2 (nI i)]
    generalize hy : rg bs (nI i) = y at da
    have a43 : ∀ (j : Nat) (add rest : List Int32), i ≤ j → j ≤ i + 1 → (bs.drop j).take 1 = add → encl false la 1 (bs.drop i) = (add ++ (encl false la 1 (bs.drop (j + 1))).1, (encl false la 1 (bs.drop (j + 1))).2) → ev_E G m_Words_cutEnclosed 43 [(0, .ref (X + 10)), (1, .int x1), (2, .int (nI bs.length)), (3, .int la), (4, .int kd), (5, .int (nI j)), (6, .int y)] [] h (wgo cI X h σ bs (encl false la 1 (bs.drop i)).2 i0 (Ws ++ [(kd, op ++ (encl false la 1 (bs.drop i)).1)])) := by
      intro j add rest j1 j2 ha he
      have hadd : add.length ≤ 1 := by rw [← ha, List.length_take]; omega
      refine ev_aload_n d_Words_cutEnclosed_43 rfl rfl ?_
      refine ev_iload d_Words_cutEnclosed_44 rfl ?_
      refine ev_iload_n d_Words_cutEnclosed_46 rfl rfl ?_
      refine ev_Vn (ci := 4) [.int (nI j), .int (nI bs.length)] [] ca_Words_cutEnclosed_85 d_Words_cutEnclosed_47 rfl (hA) rfl (Nat.le_of_ble_eq_true rfl) (z_putWithin hT S hA (by omega) hV H (by omega) (by omega)) (fun h1 z => ?_)
      obtain ⟨σ1, S1, r1, p1, H1⟩ := z
      rw [ha] at H1
      have hA1 := rwR_obj S.1 r1 hA (by omega) (nrow (by decide))
      refine ev_iinc d_Words_cutEnclosed_50 rfl (by decide) ?_
      refine ev_goto (tgt := 3) d_Words_cutEnclosed_53 (by decide) ?_
      refine ev_as [(0, .ref (X + 10)), (1, .int x1), (2, .int (nI bs.length)), (3, .int la), (4, .int kd), (5, .int (nI (j + 1)))] ⟨rfl, rfl, rfl, rfl, rfl, ?_, trivial⟩ (ev_to (ih (bs.length - (j + 1)) (by omega) (j + 1) (op ++ add) h1 σ1 (by omega) (by omega) (by omega) (by rw [List.length_append]; omega) S1 hA1 (hv5_same hV (p1 6 (by decide)) (p1 8 (by decide))) H1) ?_)
      · show some (Value.int (nI j + Int32.ofInt 1)) = _
        rw [show nI j + Int32.ofInt 1 = nI (j + 1) from nI_1 j]
      · rintro o h' ⟨x, rfl, q1, σ2, q2, q3, q4, q5⟩
        rw [he]
        refine ⟨x, rfl, q1, σ2, q2, rwR_tr r1 q3, fun τ hτ => (q4 τ hτ).trans (p1 τ hτ), ?_⟩
        rw [List.append_assoc] at q5
        exact q5
    refine ev_istore d_Words_cutEnclosed_22 (by decide) ?_
    refine ev_iload d_Words_cutEnclosed_24 rfl ?_
    refine ev_iload_n d_Words_cutEnclosed_26 rfl rfl ?_
    refine ev_icmp_ne (tgt := 33) d_Words_cutEnclosed_27 (by decide) (fun c_27 => ?_) (fun c_27 => ?_)
    · refine ev_iload d_Words_cutEnclosed_33 rfl ?_
      refine ev_bipush (v := 92) d_Words_cutEnclosed_35 (by decide) ?_
      by_cases h92 : y = 92
      · refine ev_icmp_ne (tgt := 43) d_Words_cutEnclosed_37 (by decide) (fun z => absurd h92 z) (fun _ => ?_)
        refine ev_iinc d_Words_cutEnclosed_40 rfl (by decide) ?_
        have k1 : encl false la 1 (bs.drop i) = ((bs.drop (i + 1)).take 1 ++ (encl false la 1 (bs.drop (i + 1 + 1))).1, (encl false la 1 (bs.drop (i + 1 + 1))).2) := by
          rw [da, h92]
          have e2 : bs.drop (i + 1 + 1) = (bs.drop (i + 1)).drop 1 := by rw [List.drop_drop]
          rw [e2]
          cases bs.drop (i + 1) with
          | nil => rw [encl_e]; simp [encl]
          | cons e u => rw [encl_b]; simp
        refine ev_as [(0, .ref (X + 10)), (1, .int x1), (2, .int (nI bs.length)), (3, .int la), (4, .int kd), (5, .int (nI (i + 1))), (6, .int y)] ⟨rfl, rfl, rfl, rfl, rfl, ?_, rfl, trivial⟩ (a43 (i + 1) _ [] (by omega) (by omega) rfl k1)
        show some (Value.int (nI i + Int32.ofInt 1)) = _
        rw [show nI i + Int32.ofInt 1 = nI (i + 1) from nI_1 i]
      · refine ev_icmp_ne (tgt := 43) d_Words_cutEnclosed_37 (by decide) (fun _ => ?_) (fun z => absurd z h92)
        refine a43 i [y] [] (by omega) (by omega) (by rw [da]; rfl) ?_
        rw [da, encl_o h92]
        have hnd : nd false la 1 y = 1 := by unfold nd; rw [if_neg c_27]; simp
        rw [hnd, if_neg (by decide)]
        rfl
    · have e27 : y = la := by
        by_cases q : y = la
        · exact q
        · first | exact absurd q c_27 | exact c_27
      refine ev_goto (tgt := 56) d_Words_cutEnclosed_30 (by decide) ?_
      have k0 : encl false la 1 (bs.drop i) = ([], bs.drop (i + 1)) := by
        rw [da, encl_o (by rw [e27]; exact hla)]
        have hnd : nd false la 1 y = 0 := by unfold nd; rw [if_pos e27]; simp
        rw [hnd, if_pos rfl]
      rw [k0, List.append_nil]
      exact ev_as [(0, .ref (X + 10)), (4, .int kd), (5, .int (nI i))] ⟨rfl, rfl, rfl, trivial⟩ (fin i op _ h σ hi hi0 rfl S hA H)
theorem z_cutEnclosed (hT : (gl_t G)[0]? = some (cI, .int)) {bs : List Int32} (hb : bs.length ≤ 1501) {la kd : Int32} (hla : ¬ la = 92) {Ws : List (Int32 × List Int32)} (hl1 : Ws.length < 2000) (hl2 : wdB Ws ≤ 1501) {i : Nat} (hi : i ≤ bs.length) {h : hp_T} {σ : rwT} (S : tS cI X h σ) (hA : h.2.2 (X + 10) = some (.inr (wdO X 5 str v))) (hV : hv5 σ v bs) (H : wdH σ Ws []) : ct_E G m_Words_cutEnclosed [.ref (X + 10), .int (nI i), .int (nI bs.length), .int la, .int kd] h (wgo cI X h σ bs (encl false la 1 (bs.drop i)).2 i (Ws ++ [(kd, (encl false la 1 (bs.drop i)).1)])) := by
  refine ct_of (ws' := tb_all) rfl rfl (Nat.le_of_ble_eq_true rfl) ?_
  refine ev_iload_n d_Words_cutEnclosed_0 rfl rfl ?_
  refine ev_istore d_Words_cutEnclosed_1 (by decide) ?_
  exact ev_as [(0, .ref (X + 10)), (1, .int (nI i)), (2, .int (nI bs.length)), (3, .int la), (4, .int kd), (5, .int (nI i))] ⟨rfl, rfl, rfl, rfl, rfl, rfl, trivial⟩ (lz_cutEnclosed hT hb hla hl1 hl2 (bs.length - i) i [] h σ (by omega) (by omega) (Nat.le_refl _) (Nat.zero_le _) S hA hV H)
theorem lz_cutComment (hT : (gl_t G)[0]? = some (cI, .int)) {bs : List Int32} (hb : bs.length ≤ 1501) {x1 : Int32} {kp : Bool} {Ws : List (Int32 × List Int32)} (hl1 : Ws.length < 2000) (hl2 : wdB Ws ≤ 1501) {i0 : Nat} : ∀ (d i dep : Nat) (op : List Int32) (h : hp_T) (σ : rwT), bs.length ≤ i + d → i ≤ bs.length + 1 → i0 ≤ i → op.length ≤ i → 1 ≤ dep → dep ≤ i + 1 → tS cI X h σ → h.2.2 (X + 10) = some (.inr (wdO X 5 str v)) → hv5 σ v bs → wdH σ Ws op → ev_E G m_Words_cutComment 6 [(0, .ref (X + 10)), (1, .int x1), (2, .int (nI bs.length)), (3, .int (bI kp)), (4, .int (nI dep)), (5, .int (nI i))] [] h (wgo cI X h σ bs (encl true 41 dep (bs.drop i)).2 i0 (Ws ++ bif kp then [(4, op ++ (encl true 41 dep (bs.drop i)).1)] else [])) := by
  have m5 : (5 : Nat) ∈ txs := by decide
  have m11 : (11 : Nat) ∈ txs := by decide
  have fin : ∀ (i : Nat) (op rest : List Int32) (h : hp_T) (σ : rwT), i ≤ bs.length + 1 → i0 ≤ i → bs.drop (i + 1) = rest → tS cI X h σ → h.2.2 (X + 10) = some (.inr (wdO X 5 str v)) → wdH σ Ws op → ev_E G m_Words_cutComment 81 [(0, .ref (X + 10)), (3, .int (bI kp)), (5, .int (nI i))] [] h (wgo cI X h σ bs rest i0 (Ws ++ bif kp then [(4, op)] else [])) := by
    intro i op rest h σ hi hi0 hr S hA H
    refine ev_iload_n d_Words_cutComment_81 rfl rfl ?_
    cases kp with
    | false =>
      refine ev_if_eq (tgt := 93) d_Words_cutComment_82 (by decide) (fun _ => ?_) (fun z => absurd rfl z)
      refine ev_aload_n d_Words_cutComment_93 rfl rfl ?_
      refine ev_get (fa_Words_12 rfl rfl) d_Words_cutComment_94 hA rfl ?_
      refine ev_Vn (ci := 3) [] [] ca_Words_cutComment_89 d_Words_cutComment_97 rfl ((S.2 11 m11)) rfl (Nat.le_of_ble_eq_true rfl) (y_dropOpen hT S m11 H.1 (by rw [List.length_map]; omega) (by unfold wdB at hl2; omega)) (fun h1 z => ?_)
      obtain ⟨σ1, S1, r1, p1, H1⟩ := z
      refine ev_iload d_Words_cutComment_100 rfl ?_
      refine ev_iconst (v := 1) d_Words_cutComment_102 (by decide) ?_
      refine ev_iadd d_Words_cutComment_103 ?_
      rw [nI_1]
      refine ev_iret d_Words_cutComment_104 rfl ?_
      refine ⟨_, rfl, ⟨i + 1, rfl, hr, by omega, by omega⟩, σ1, S1, r1, fun τ hτ => p1 τ (fun z => hτ (by simp at z; simp [z])), ?_, ?_⟩
      · rw [cond_false, List.append_nil]; exact H1
      · rw [cond_false, List.append_nil, p1 16 (by decide)]; exact H.2
    | true =>
      refine ev_if_eq (tgt := 93) d_Words_cutComment_82 (by decide) (fun z => absurd z (by decide)) (fun _ => ?_)
      refine ev_aload_n d_Words_cutComment_85 rfl rfl ?_
      refine ev_iconst (v := 4) d_Words_cutComment_86 (by decide) ?_
      refine ev_Vn (ci := 4) [.int 4] [] ca_Words_cutComment_79 d_Words_cutComment_87 rfl (hA) rfl (Nat.le_of_ble_eq_true rfl) (z_wclose hT S hA H (by omega) 4) (fun h1 z => ?_)
      refine ev_goto (tgt := 100) d_Words_cutComment_90 (by decide) ?_
      refine ev_iload d_Words_cutComment_100 rfl ?_
      refine ev_iconst (v := 1) d_Words_cutComment_102 (by decide) ?_
      refine ev_iadd d_Words_cutComment_103 ?_
      rw [nI_1]
      refine ev_iret d_Words_cutComment_104 rfl ?_
      exact ⟨_, rfl, ⟨i + 1, rfl, hr, by omega, by omega⟩, ‹_›⟩
  intro d
  induction d using Nat.strongRecOn with
  | ind d ih =>
    intro i dep op h σ hd hi hi0 hop hd1 hd2 S hA hV H
    have hX := S.1.2.2
    refine ev_iload d_Words_cutComment_6 rfl ?_
    refine ev_iload_n d_Words_cutComment_8 rfl rfl ?_
    refine ev_icmp_ge (tgt := 81) d_Words_cutComment_9 (by decide) (fun c9 => ?_) (fun c9 => ?_)
    · have hge := (nI_leI (by omega) (by omega)).mp c9
      have e0 : bs.drop i = [] := List.drop_eq_nil_of_le hge
      rw [e0]
      simp only [encl, List.append_nil]
      exact ev_as [(0, .ref (X + 10)), (3, .int (bI kp)), (5, .int (nI i))] ⟨rfl, rfl, rfl, trivial⟩ (fin i op [] h σ hi hi0 (List.drop_eq_nil_of_le (by omega)) S hA H)
    have hlt : i < bs.length := Nat.lt_of_not_le (fun q => c9 (nI_le q (by omega)))
    have da := drop_at hlt (by omega)
    refine ev_aload_n d_Words_cutComment_12 rfl rfl ?_
    refine ev_get (fa_Words_25 rfl rfl) d_Words_cutComment_13 hA rfl ?_
    refine ev_aload_n d_Words_cutComment_16 rfl rfl ?_
    refine ev_get (fa_Words_28 rfl rfl) d_Words_cutComment_17 hA rfl ?_
    refine ev_iload d_Words_cutComment_20 rfl ?_
    refine ev_Vv (ci := 3) [.int v, .int (nI i)] [] ca_Words_cutComment_59 d_Words_cutComment_22 rfl ((S.2 5 m5)) rfl (Nat.le_of_ble_eq_true rfl) (w_byteOf hT S m5 v (nI i)) ?_
    rw [show btO (σ (5 + 1)).2.2 (σ (5 + 3)).2.2 v (nI i) = rg bs (nI i) from hV.2 (nI i)]
    generalize hy : rg bs (nI i) = y at da
    have a68 : ∀ (dp j : Nat) (add : List Int32), 1 ≤ dp → dp ≤ i + 2 → i ≤ j → j ≤ i + 1 → (bs.drop j).take 1 = add → encl true 41 dep (bs.drop i) = (add ++ (encl true 41 dp (bs.drop (j + 1))).1, (encl true 41 dp (bs.drop (j + 1))).2) → ev_E G m_Words_cutComment 68 [(0, .ref (X + 10)), (1, .int x1), (2, .int (nI bs.length)), (3, .int (bI kp)), (4, .int (nI dp)), (5, .int (nI j)), (6, .int y)] [] h (wgo cI X h σ bs (encl true 41 dep (bs.drop i)).2 i0 (Ws ++ bif kp then [(4, op ++ (encl true 41 dep (bs.drop i)).1)] else [])) := by
      intro dp j add hp1 hp2 j1 j2 ha he
      have hadd : add.length ≤ 1 := by rw [← ha, List.length_take]; omega
      refine ev_aload_n d_Words_cutComment_68 rfl rfl ?_
      refine ev_iload d_Words_cutComment_69 rfl ?_
      refine ev_iload_n d_Words_cutComment_71 rfl rfl ?_
      refine ev_Vn (ci := 4) [.int (nI j), .int (nI bs.length)] [] ca_Words_cutComment_85 d_Words_cutComment_72 rfl (hA) rfl (Nat.le_of_ble_eq_true rfl) (z_putWithin hT S hA (by omega) hV H (by omega) (by omega)) (fun h1 z => ?_)
      obtain ⟨σ1, S1, r1, p1, H1⟩ := z
      rw [ha] at H1
      have hA1 := rwR_obj S.1 r1 hA (by omega) (nrow (by decide))
      refine ev_iinc d_Words_cutComment_75 rfl (by decide) ?_
      refine ev_goto (tgt := 6) d_Words_cutComment_78 (by decide) ?_
      refine ev_as [(0, .ref (X + 10)), (1, .int x1), (2, .int (nI bs.length)), (3, .int (bI kp)), (4, .int (nI dp)), (5, .int (nI (j + 1)))] ⟨rfl, rfl, rfl, rfl, rfl, ?_, trivial⟩ (ev_to (ih (bs.length - (j + 1)) (by omega) (j + 1) dp (op ++ add) h1 σ1 (by omega) (by omega) (by omega) (by rw [List.length_append]; omega) hp1 (by omega) S1 hA1 (hv5_same hV (p1 6 (by decide)) (p1 8 (by decide))) H1) ?_)
      · show some (Value.int (nI j + Int32.ofInt 1)) = _
        rw [show nI j + Int32.ofInt 1 = nI (j + 1) from nI_1 j]
      · rintro o h' ⟨x, rfl, q1, σ2, q2, q3, q4, q5⟩
        rw [he]
        refine ⟨x, rfl, q1, σ2, q2, rwR_tr r1 q3, fun τ hτ => (q4 τ hτ).trans (p1 τ hτ), ?_⟩
        rw [List.append_assoc] at q5
        exact q5
    have a50 : ∀ dp : Nat, dp ≤ i + 2 → (y = 92 ∧ dp = dep ∨ ¬ y = 92 ∧ nd true 41 dep y = dp) → ev_E G m_Words_cutComment 50 [(0, .ref (X + 10)), (1, .int x1), (2, .int (nI bs.length)), (3, .int (bI kp)), (4, .int (nI dp)), (5, .int (nI i)), (6, .int y)] [] h (wgo cI X h σ bs (encl true 41 dep (bs.drop i)).2 i0 (Ws ++ bif kp then [(4, op ++ (encl true 41 dep (bs.drop i)).1)] else [])) := by
      intro dp hp hcase
      refine ev_iload d_Words_cutComment_50 rfl ?_
      by_cases h0 : dp = 0
      · subst h0
        refine ev_if_ne (tgt := 58) d_Words_cutComment_52 (by decide) (fun z => absurd rfl z) (fun _ => ?_)
        refine ev_goto (tgt := 81) d_Words_cutComment_55 (by decide) ?_
        rcases hcase with ⟨-, q⟩ | ⟨h92, q⟩
        · omega
        · have k0 : encl true 41 dep (bs.drop i) = ([], bs.drop (i + 1)) := by
            rw [da, encl_o h92, q, if_pos rfl]
          rw [k0, List.append_nil]
          exact ev_as [(0, .ref (X + 10)), (3, .int (bI kp)), (5, .int (nI i))] ⟨rfl, rfl, rfl, trivial⟩ (fin i op _ h σ hi hi0 rfl S hA H)
      · refine ev_if_ne (tgt := 58) d_Words_cutComment_52 (by decide) (fun _ => ?_) (fun z => absurd z (nI_ne0 (by omega) (by omega)))
        refine ev_iload d_Words_cutComment_58 rfl ?_
        refine ev_bipush (v := 92) d_Words_cutComment_60 (by decide) ?_
        rcases hcase with ⟨h92, q⟩ | ⟨h92, q⟩
        · refine ev_icmp_ne (tgt := 68) d_Words_cutComment_62 (by decide) (fun z => absurd h92 z) (fun _ => ?_)
          refine ev_iinc d_Words_cutComment_65 rfl (by decide) ?_
          have k1 : encl true 41 dep (bs.drop i) = ((bs.drop (i + 1)).take 1 ++ (encl true 41 dp (bs.drop (i + 1 + 1))).1, (encl true 41 dp (bs.drop (i + 1 + 1))).2) := by
            rw [da, h92, q]
            have e2 : bs.drop (i + 1 + 1) = (bs.drop (i + 1)).drop 1 := by rw [List.drop_drop]
            rw [e2]
            cases bs.drop (i + 1) with
            | nil => rw [encl_e]; simp [encl]
            | cons e u => rw [encl_b]; simp
          refine ev_as [(0, .ref (X + 10)), (1, .int x1), (2, .int (nI bs.length)), (3, .int (bI kp)), (4, .int (nI dp)), (5, .int (nI (i + 1))), (6, .int y)] ⟨rfl, rfl, rfl, rfl, rfl, ?_, rfl, trivial⟩ (a68 dp (i + 1) _ (by omega) hp (by omega) (by omega) rfl k1)
          show some (Value.int (nI i + Int32.ofInt 1)) = _
          rw [show nI i + Int32.ofInt 1 = nI (i + 1) from nI_1 i]
        · refine ev_icmp_ne (tgt := 68) d_Words_cutComment_62 (by decide) (fun _ => ?_) (fun z => absurd z h92)
          refine a68 dp i [y] (by omega) hp (by omega) (by omega) (by rw [da]; rfl) ?_
          rw [da, encl_o h92, q, if_neg h0]
          rfl
    refine ev_istore d_Words_cutComment_25 (by decide) ?_
    refine ev_iload d_Words_cutComment_27 rfl ?_
    refine ev_bipush (v := 40) d_Words_cutComment_29 (by decide) ?_
    by_cases h40 : y = 40
    · refine ev_icmp_ne (tgt := 40) d_Words_cutComment_31 (by decide) (fun z => absurd h40 z) (fun _ => ?_)
      refine ev_iinc d_Words_cutComment_34 rfl (by decide) ?_
      refine ev_goto (tgt := 50) d_Words_cutComment_37 (by decide) ?_
      refine ev_as [(0, .ref (X + 10)), (1, .int x1), (2, .int (nI bs.length)), (3, .int (bI kp)), (4, .int (nI (dep + 1))), (5, .int (nI i)), (6, .int y)] ⟨rfl, rfl, rfl, rfl, ?_, rfl, rfl, trivial⟩ (a50 (dep + 1) (by omega) (Or.inr ⟨by rw [h40]; decide, by unfold nd; rw [h40, if_neg (by decide), if_pos ⟨rfl, rfl⟩]⟩))
      show some (Value.int (nI dep + Int32.ofInt 1)) = _
      rw [show nI dep + Int32.ofInt 1 = nI (dep + 1) from nI_1 dep]
    · refine ev_icmp_ne (tgt := 40) d_Words_cutComment_31 (by decide) (fun _ => ?_) (fun z => absurd z h40)
      refine ev_iload d_Words_cutComment_40 rfl ?_
      refine ev_bipush (v := 41) d_Words_cutComment_42 (by decide) ?_
      by_cases h41 : y = 41
      · refine ev_icmp_ne (tgt := 50) d_Words_cutComment_44 (by decide) (fun z => absurd h41 z) (fun _ => ?_)
        refine ev_iinc d_Words_cutComment_47 rfl (by decide) ?_
        refine ev_as [(0, .ref (X + 10)), (1, .int x1), (2, .int (nI bs.length)), (3, .int (bI kp)), (4, .int (nI (dep - 1))), (5, .int (nI i)), (6, .int y)] ⟨rfl, rfl, rfl, rfl, ?_, rfl, rfl, trivial⟩ (a50 (dep - 1) (by omega) (Or.inr ⟨by rw [h41]; decide, by unfold nd; rw [h41, if_pos rfl, if_neg (fun z => absurd z.2 (by decide))]⟩))
        show some (Value.int (nI dep + Int32.ofInt (-1))) = _
        obtain ⟨k, rfl⟩ : ∃ k, dep = k + 1 := ⟨dep - 1, by omega⟩
        rw [show nI (k + 1) + Int32.ofInt (-1) = nI (k + 1) - 1 from by rw [Int32.sub_eq_add_neg]; rfl, nI_pred, Nat.add_sub_cancel]
      · refine ev_icmp_ne (tgt := 50) d_Words_cutComment_44 (by decide) (fun _ => ?_) (fun z => absurd z h41)
        by_cases h92 : y = 92
        · exact a50 dep (by omega) (Or.inl ⟨h92, rfl⟩)
        · exact a50 dep (by omega) (Or.inr ⟨h92, by unfold nd; rw [if_neg h41, if_neg (fun z => h40 z.2)]⟩)
theorem z_cutComment (hT : (gl_t G)[0]? = some (cI, .int)) {bs : List Int32} (hb : bs.length ≤ 1501) (kp : Bool) {Ws : List (Int32 × List Int32)} (hl1 : Ws.length < 2000) (hl2 : wdB Ws ≤ 1501) {i : Nat} (hi : i ≤ bs.length) {h : hp_T} {σ : rwT} (S : tS cI X h σ) (hA : h.2.2 (X + 10) = some (.inr (wdO X 5 str v))) (hV : hv5 σ v bs) (H : wdH σ Ws []) : ct_E G m_Words_cutComment [.ref (X + 10), .int (nI i), .int (nI bs.length), .int (bI kp)] h (wgo cI X h σ bs (encl true 41 1 (bs.drop i)).2 i (Ws ++ bif kp then [(4, (encl true 41 1 (bs.drop i)).1)] else [])) := by
  refine ct_of (ws' := tb_all) rfl rfl (Nat.le_of_ble_eq_true rfl) ?_
  refine ev_iconst (v := 1) d_Words_cutComment_0 (by decide) ?_
  refine ev_istore d_Words_cutComment_1 (by decide) ?_
  refine ev_iload_n d_Words_cutComment_3 rfl rfl ?_
  refine ev_istore d_Words_cutComment_4 (by decide) ?_
  exact ev_as [(0, .ref (X + 10)), (1, .int (nI i)), (2, .int (nI bs.length)), (3, .int (bI kp)), (4, .int (nI 1)), (5, .int (nI i))] ⟨rfl, rfl, rfl, rfl, rfl, rfl, trivial⟩ (lz_cutComment hT hb hl1 hl2 (bs.length - i) i 1 [] h σ (by omega) (by omega) (Nat.le_refl _) (Nat.zero_le _) (Nat.le_refl _) (by omega) S hA hV H)
end WORDS4
