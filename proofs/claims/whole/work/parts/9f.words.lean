/-! the class: words, weak -/
abbrev wdO (X u str : Nat) (v : Int32) : Nat × List Value := (4, [.ref (X + 11), .ref (X + 16), .ref (X + u), .int v, .ref str])
/-- a text of signs: it is a String, and indexOf answers an int -/
def gSn (G : gl_G) (str : Nat) : Prop := (∀ U : State, gl_L G U → va_O "java/lang/String" str (gl_A G) U U.heap) ∧ ∀ (h : hp_T) (c : Int32), ct_E G m_String_indexOf [.ref str, .int c] h (pu h)
/-- answers an int, and changes these rows alone -/
abbrev rW (cI : ClassId) (X : Nat) (h : hp_T) (σ : rwT) (ρs : List Nat) : Option Value → hp_T → Prop := cr (fun y h' => (∃ q : Int32, y = .int q) ∧ tW cI X h σ ρs h')
section WORDS3
variable {G : gl_G} {cI : ClassId} {X u str : Nat} {v : Int32}
theorem w_wclose (hT : (gl_t G)[0]? = some (cI, .int)) {h : hp_T} {σ : rwT} (S : tS cI X h σ) (hA : h.2.2 (X + 10) = some (.inr (wdO X u str v))) (k : Int32) : ct_E G m_Words_close [.ref (X + 10), .int k] h (cn (tW cI X h σ [12, 14, 16])) := by
  have m : (11 : Nat) ∈ txs := by decide
  have m16 : (16 : Nat) ∈ rws := by decide
  have hX := S.1.2.2
  refine ct_of (ws' := tb_all) rfl rfl (Nat.le_of_ble_eq_true rfl) ?_
  refine ev_aload_n d_Words_close_0 rfl rfl ?_
  refine ev_get (fa_Words_12 rfl rfl) d_Words_close_1 hA rfl ?_
  refine ev_Vn (ci := 3) [] [] ca_Words_close_92 d_Words_close_4 rfl ((S.2 11 m)) rfl (Nat.le_of_ble_eq_true rfl) (w_close hT S m) (fun h1 z => ?_)
  obtain ⟨σ1, S1, r1, p1, -⟩ := z
  have hA1 := rwR_obj S.1 r1 hA (by omega) (nrow (by decide))
  refine ev_aload_n d_Words_close_7 rfl rfl ?_
  refine ev_get (fa_Words_21 rfl rfl) d_Words_close_8 hA1 rfl ?_
  refine ev_iload_n d_Words_close_11 rfl rfl ?_
  refine ev_Vn (ci := 1) [.int k] [] ca_Words_close_94 d_Words_close_12 rfl ((S1.1.1 _ m16).1.1) rfl (Nat.le_of_ble_eq_true rfl) (w_radd hT S1 m16 k) (fun h1 z => ?_)
  refine ev_vret d_Words_close_15 rfl ?_
  exact ⟨rfl, tW_tr r1 (fun τ hτ => p1 τ (fun z => hτ (by simp at z; simp [z]))) (tP_w z (ρs' := [12, 14, 16]) (by decide))⟩
theorem w_putWithin (hT : (gl_t G)[0]? = some (cI, .int)) {h : hp_T} {σ : rwT} (S : tS cI X h σ) (hu : u ∈ txs) (hA : h.2.2 (X + 10) = some (.inr (wdO X u str v))) (i n : Int32) : ct_E G m_Words_putWithin [.ref (X + 10), .int i, .int n] h (cn (tW cI X h σ [12, 14, 16])) := by
  have m : (11 : Nat) ∈ txs := by decide
  refine ct_of (ws' := tb_all) rfl rfl (Nat.le_of_ble_eq_true rfl) ?_
  refine ev_iload_n d_Words_putWithin_0 rfl rfl ?_
  refine ev_iload_n d_Words_putWithin_1 rfl rfl ?_
  refine ev_icmp_ge (tgt := 24) d_Words_putWithin_2 (by decide) (fun c_2 => ?_) (fun c_2 => ?_)
  · refine ev_vret d_Words_putWithin_24 rfl ?_
    exact ⟨rfl, tW_rf S⟩
  · refine ev_aload_n d_Words_putWithin_5 rfl rfl ?_
    refine ev_get (fa_Words_12 rfl rfl) d_Words_putWithin_6 hA rfl ?_
    refine ev_aload_n d_Words_putWithin_9 rfl rfl ?_
    refine ev_get (fa_Words_25 rfl rfl) d_Words_putWithin_10 hA rfl ?_
    refine ev_aload_n d_Words_putWithin_13 rfl rfl ?_
    refine ev_get (fa_Words_28 rfl rfl) d_Words_putWithin_14 hA rfl ?_
    refine ev_iload_n d_Words_putWithin_17 rfl rfl ?_
    refine ev_Vv (ci := 3) [.int v, .int i] [.ref (X + 11)] ca_Words_putWithin_59 d_Words_putWithin_18 rfl ((S.2 u hu)) rfl (Nat.le_of_ble_eq_true rfl) (w_byteOf hT S hu v i) ?_
    refine ev_Vn (ci := 3) [.int _] [] ca_Words_putWithin_76 d_Words_putWithin_21 rfl ((S.2 11 m)) rfl (Nat.le_of_ble_eq_true rfl) (w_put hT S m _) (fun h1 z => ?_)
    refine ev_vret d_Words_putWithin_24 rfl ?_
    exact ⟨rfl, tP_w z (by decide)⟩
theorem w_isNothing {h : hp_T} (c : Int32) : ct_E G m_Words_isNothing [.int c] h (cv (.int (if c ≤ 32 ∨ c = 127 then 1 else 0)) h) := by
  refine ct_of (ws' := tb_all) rfl rfl (Nat.le_of_ble_eq_true rfl) ?_
  refine ev_iload_n d_Words_isNothing_0 rfl rfl ?_
  refine ev_bipush (v := 32) d_Words_isNothing_1 (by decide) ?_
  refine ev_icmp_le (tgt := 12) d_Words_isNothing_3 (by decide) (fun c_3 => ?_) (fun c_3 => ?_)
  · refine ev_iconst (v := 1) d_Words_isNothing_12 (by decide) ?_
    refine ev_goto (tgt := 17) d_Words_isNothing_13 (by decide) ?_
    refine ev_zret d_Words_isNothing_17 rfl rfl ?_
    rw [if_pos (Or.inl c_3)]
    exact ⟨rfl, rfl⟩
  · refine ev_iload_n d_Words_isNothing_6 rfl rfl ?_
    refine ev_bipush (v := 127) d_Words_isNothing_7 (by decide) ?_
    refine ev_icmp_ne (tgt := 16) d_Words_isNothing_9 (by decide) (fun c_9 => ?_) (fun c_9 => ?_)
    · refine ev_iconst (v := 0) d_Words_isNothing_16 (by decide) ?_
      refine ev_zret d_Words_isNothing_17 rfl rfl ?_
      rw [if_neg (fun z => z.elim c_3 c_9)]
      exact ⟨rfl, rfl⟩
    · refine ev_iconst (v := 1) d_Words_isNothing_12 (by decide) ?_
      refine ev_goto (tgt := 17) d_Words_isNothing_13 (by decide) ?_
      refine ev_zret d_Words_isNothing_17 rfl rfl ?_
      have e : c = 127 := by
        by_cases q : c = 127
        · exact q
        · first | exact absurd q c_9 | exact c_9
      rw [if_pos (Or.inr e)]
      exact ⟨rfl, rfl⟩
theorem w_isSign (hSg : gSn G str) {h : hp_T} (hA : h.2.2 (X + 10) = some (.inr (wdO X u str v))) (b : Int32) : ct_E G m_Words_isSign [.ref (X + 10), .int b] h (pu h) := by
  refine ct_of (ws' := tb_all) rfl rfl (Nat.le_of_ble_eq_true rfl) ?_
  refine ev_aload_n d_Words_isSign_0 rfl rfl ?_
  refine ev_get (fa_Words_34 rfl rfl) d_Words_isSign_1 hA rfl ?_
  refine ev_iload_n d_Words_isSign_4 rfl rfl ?_
  refine ev_i2c d_Words_isSign_5 ?_
  refine ev_Br [.int _] [] ca_Words_isSign_97 d_Words_isSign_6 hSg.1 rfl (Nat.le_of_ble_eq_true rfl) (hSg.2 h _) (fun x h1 z => ?_)
  obtain ⟨⟨i, rfl⟩, z⟩ := z
  obtain rfl := z.symm
  refine ev_if_lt (tgt := 16) d_Words_isSign_9 (by decide) (fun c_9 => ?_) (fun c_9 => ?_)
  · refine ev_iconst (v := 0) d_Words_isSign_16 (by decide) ?_
    refine ev_zret d_Words_isSign_17 rfl rfl ?_
    exact ⟨_, rfl, ⟨_, rfl⟩, rfl⟩
  · refine ev_iconst (v := 1) d_Words_isSign_12 (by decide) ?_
    refine ev_goto (tgt := 17) d_Words_isSign_13 (by decide) ?_
    refine ev_zret d_Words_isSign_17 rfl rfl ?_
    exact ⟨_, rfl, ⟨_, rfl⟩, rfl⟩
theorem l_cutComment (hT : (gl_t G)[0]? = some (cI, .int)) (hu : u ∈ txs) {n : Nat} (hn : n < 2 ^ 30) {x1 b3 : Int32} : ∀ (d i : Nat) (dep : Int32) (h : hp_T) (σ : rwT), n ≤ i + d → i ≤ n + 1 → tS cI X h σ → h.2.2 (X + 10) = some (.inr (wdO X u str v)) → ev_E G m_Words_cutComment 6 [(0, .ref (X + 10)), (1, .int x1), (2, .int (nI n)), (3, .int b3), (4, .int dep), (5, .int (nI i))] [] h (rW cI X h σ [12, 14, 16]) := by
  have m : (11 : Nat) ∈ txs := by decide
  have fin : ∀ (z : Int32) (h : hp_T) (σ : rwT), tS cI X h σ → h.2.2 (X + 10) = some (.inr (wdO X u str v)) → ev_E G m_Words_cutComment 81 [(0, .ref (X + 10)), (3, .int b3), (5, .int z)] [] h (rW cI X h σ [12, 14, 16]) := by
    intro z h σ S hA
    refine ev_iload_n d_Words_cutComment_81 rfl rfl ?_
    refine ev_if_eq (tgt := 93) d_Words_cutComment_82 (by decide) (fun c_82 => ?_) (fun c_82 => ?_)
    · refine ev_aload_n d_Words_cutComment_93 rfl rfl ?_
      refine ev_get (fa_Words_12 rfl rfl) d_Words_cutComment_94 hA rfl ?_
      refine ev_Vn (ci := 3) [] [] ca_Words_cutComment_89 d_Words_cutComment_97 rfl ((S.2 11 m)) rfl (Nat.le_of_ble_eq_true rfl) (w_dropOpen hT S m) (fun h1 z => ?_)
      refine ev_iload d_Words_cutComment_100 rfl ?_
      refine ev_iconst (v := 1) d_Words_cutComment_102 (by decide) ?_
      refine ev_iadd d_Words_cutComment_103 ?_
      refine ev_iret d_Words_cutComment_104 rfl ?_
      exact ⟨_, rfl, ⟨_, rfl⟩, tP_w ‹_› (by decide)⟩
    · refine ev_aload_n d_Words_cutComment_85 rfl rfl ?_
      refine ev_iconst (v := 4) d_Words_cutComment_86 (by decide) ?_
      refine ev_Vn (ci := 4) [.int 4] [] ca_Words_cutComment_79 d_Words_cutComment_87 rfl (hA) rfl (Nat.le_of_ble_eq_true rfl) (w_wclose hT S hA 4) (fun h1 z => ?_)
      refine ev_goto (tgt := 100) d_Words_cutComment_90 (by decide) ?_
      refine ev_iload d_Words_cutComment_100 rfl ?_
      refine ev_iconst (v := 1) d_Words_cutComment_102 (by decide) ?_
      refine ev_iadd d_Words_cutComment_103 ?_
      refine ev_iret d_Words_cutComment_104 rfl ?_
      exact ⟨_, rfl, ⟨_, rfl⟩, ‹_›⟩
  intro d
  induction d with
  | zero =>
    intro i dep h σ hd hi S hA
    refine ev_iload d_Words_cutComment_6 rfl ?_
    refine ev_iload_n d_Words_cutComment_8 rfl rfl ?_
    refine ev_icmp_ge (tgt := 81) d_Words_cutComment_9 (by decide) (fun _ => ?_) (fun z => absurd (nI_le (by omega) (by omega)) z)
    exact ev_as [(0, .ref (X + 10)), (3, .int b3), (5, .int (nI i))] ⟨rfl, rfl, rfl, trivial⟩ (fin _ h σ S hA)
  | succ d ih =>
    intro i dep h σ hd hi S hA
    have hX := S.1.2.2
    refine ev_iload d_Words_cutComment_6 rfl ?_
    refine ev_iload_n d_Words_cutComment_8 rfl rfl ?_
    refine ev_icmp_ge (tgt := 81) d_Words_cutComment_9 (by decide) (fun _ => ?_) (fun c9 => ?_)
    · exact ev_as [(0, .ref (X + 10)), (3, .int b3), (5, .int (nI i))] ⟨rfl, rfl, rfl, trivial⟩ (fin _ h σ S hA)
    have hlt : i < n := Nat.lt_of_not_le (fun q => c9 (nI_le q (by omega)))
    refine ev_aload_n d_Words_cutComment_12 rfl rfl ?_
    refine ev_get (fa_Words_25 rfl rfl) d_Words_cutComment_13 hA rfl ?_
    refine ev_aload_n d_Words_cutComment_16 rfl rfl ?_
    refine ev_get (fa_Words_28 rfl rfl) d_Words_cutComment_17 hA rfl ?_
    refine ev_iload d_Words_cutComment_20 rfl ?_
    refine ev_Vv (ci := 3) [.int v, .int (nI i)] [] ca_Words_cutComment_59 d_Words_cutComment_22 rfl ((S.2 u hu)) rfl (Nat.le_of_ble_eq_true rfl) (w_byteOf hT S hu v (nI i)) ?_
    generalize btO (σ (u + 1)).2.2 (σ (u + 3)).2.2 v (nI i) = y
    refine ev_istore d_Words_cutComment_25 (by decide) ?_
    refine ev_iload d_Words_cutComment_27 rfl ?_
    refine ev_bipush (v := 40) d_Words_cutComment_29 (by decide) ?_
    have a50 : ∀ dep : Int32, ev_E G m_Words_cutComment 50 [(0, .ref (X + 10)), (1, .int x1), (2, .int (nI n)), (3, .int b3), (4, .int dep), (5, .int (nI i)), (6, .int y)] [] h (rW cI X h σ [12, 14, 16]) := by
      intro dep
      have a68 : ∀ j : Nat, i ≤ j → j ≤ i + 1 → ev_E G m_Words_cutComment 68 [(0, .ref (X + 10)), (1, .int x1), (2, .int (nI n)), (3, .int b3), (4, .int dep), (5, .int (nI j)), (6, .int y)] [] h (rW cI X h σ [12, 14, 16]) := by
        intro j j1 j2
        refine ev_aload_n d_Words_cutComment_68 rfl rfl ?_
        refine ev_iload d_Words_cutComment_69 rfl ?_
        refine ev_iload_n d_Words_cutComment_71 rfl rfl ?_
        refine ev_Vn (ci := 4) [.int (nI j), .int (nI n)] [] ca_Words_cutComment_85 d_Words_cutComment_72 rfl (hA) rfl (Nat.le_of_ble_eq_true rfl) (w_putWithin hT S hu hA (nI j) (nI n)) (fun h1 z => ?_)
        obtain ⟨σ1, S1, r1, p1, -⟩ := z
        have hA1 := rwR_obj S.1 r1 hA (by omega) (nrow (by decide))
        refine ev_iinc d_Words_cutComment_75 rfl (by decide) ?_
        refine ev_goto (tgt := 6) d_Words_cutComment_78 (by decide) ?_
        refine ev_as [(0, .ref (X + 10)), (1, .int x1), (2, .int (nI n)), (3, .int b3), (4, .int dep), (5, .int (nI (j + 1)))] ⟨rfl, rfl, rfl, rfl, rfl, ?_, trivial⟩ (ev_to (ih (j + 1) dep h1 σ1 (by omega) (by omega) S1 hA1) ?_)
        · show some (Value.int (nI j + Int32.ofInt 1)) = _
          rw [show nI j + Int32.ofInt 1 = nI (j + 1) from nI_1 j]
        · rintro o h' ⟨x, rfl, q1, q2⟩
          exact ⟨x, rfl, q1, tW_tr r1 p1 q2⟩
      refine ev_iload d_Words_cutComment_50 rfl ?_
      refine ev_if_ne (tgt := 58) d_Words_cutComment_52 (by decide) (fun c_52 => ?_) (fun c_52 => ?_)
      · refine ev_iload d_Words_cutComment_58 rfl ?_
        refine ev_bipush (v := 92) d_Words_cutComment_60 (by decide) ?_
        refine ev_icmp_ne (tgt := 68) d_Words_cutComment_62 (by decide) (fun c_62 => ?_) (fun c_62 => ?_)
        · exact a68 i (by omega) (by omega)
        · refine ev_iinc d_Words_cutComment_65 rfl (by decide) ?_
          refine ev_as [(0, .ref (X + 10)), (1, .int x1), (2, .int (nI n)), (3, .int b3), (4, .int dep), (5, .int (nI (i + 1))), (6, .int y)] ⟨rfl, rfl, rfl, rfl, rfl, ?_, rfl, trivial⟩ (a68 (i + 1) (by omega) (by omega))
          show some (Value.int (nI i + Int32.ofInt 1)) = _
          rw [show nI i + Int32.ofInt 1 = nI (i + 1) from nI_1 i]
      · refine ev_goto (tgt := 81) d_Words_cutComment_55 (by decide) ?_
        exact ev_as [(0, .ref (X + 10)), (3, .int b3), (5, .int (nI i))] ⟨rfl, rfl, rfl, trivial⟩ (fin _ h σ S hA)
    refine ev_icmp_ne (tgt := 40) d_Words_cutComment_31 (by decide) (fun c_31 => ?_) (fun c_31 => ?_)
    · refine ev_iload d_Words_cutComment_40 rfl ?_
      refine ev_bipush (v := 41) d_Words_cutComment_42 (by decide) ?_
      refine ev_icmp_ne (tgt := 50) d_Words_cutComment_44 (by decide) (fun c_44 => ?_) (fun c_44 => ?_)
      · exact a50 dep
      · refine ev_iinc d_Words_cutComment_47 rfl (by decide) ?_
        exact ev_as [(0, .ref (X + 10)), (1, .int x1), (2, .int (nI n)), (3, .int b3), (4, .int _), (5, .int (nI i)), (6, .int y)] ⟨rfl, rfl, rfl, rfl, rfl, rfl, rfl, trivial⟩ (a50 _)
    · refine ev_iinc d_Words_cutComment_34 rfl (by decide) ?_
      refine ev_goto (tgt := 50) d_Words_cutComment_37 (by decide) ?_
      exact ev_as [(0, .ref (X + 10)), (1, .int x1), (2, .int (nI n)), (3, .int b3), (4, .int _), (5, .int (nI i)), (6, .int y)] ⟨rfl, rfl, rfl, rfl, rfl, rfl, rfl, trivial⟩ (a50 _)
theorem w_cutComment (hT : (gl_t G)[0]? = some (cI, .int)) {h : hp_T} {σ : rwT} (S : tS cI X h σ) (hu : u ∈ txs) (hA : h.2.2 (X + 10) = some (.inr (wdO X u str v))) {i n : Nat} (hi : i ≤ n + 1) (hn : n < 2 ^ 30) (b : Int32) : ct_E G m_Words_cutComment [.ref (X + 10), .int (nI i), .int (nI n), .int b] h (rW cI X h σ [12, 14, 16]) := by
  refine ct_of (ws' := tb_all) rfl rfl (Nat.le_of_ble_eq_true rfl) ?_
  refine ev_iconst (v := 1) d_Words_cutComment_0 (by decide) ?_
  refine ev_istore d_Words_cutComment_1 (by decide) ?_
  refine ev_iload_n d_Words_cutComment_3 rfl rfl ?_
  refine ev_istore d_Words_cutComment_4 (by decide) ?_
  exact ev_as [(0, .ref (X + 10)), (1, .int (nI i)), (2, .int (nI n)), (3, .int b), (4, .int _), (5, .int (nI i))] ⟨rfl, rfl, rfl, rfl, rfl, rfl, trivial⟩ (l_cutComment hT hu hn n i _ h σ (by omega) hi S hA)
theorem l_cutEnclosed (hT : (gl_t G)[0]? = some (cI, .int)) (hu : u ∈ txs) {n : Nat} (hn : n < 2 ^ 30) {x1 la kd : Int32} : ∀ (d i : Nat) (h : hp_T) (σ : rwT), n ≤ i + d → i ≤ n + 1 → tS cI X h σ → h.2.2 (X + 10) = some (.inr (wdO X u str v)) → ev_E G m_Words_cutEnclosed 3 [(0, .ref (X + 10)), (1, .int x1), (2, .int (nI n)), (3, .int la), (4, .int kd), (5, .int (nI i))] [] h (rW cI X h σ [12, 14, 16]) := by
  have m : (11 : Nat) ∈ txs := by decide
  have fin : ∀ (z : Int32) (h : hp_T) (σ : rwT), tS cI X h σ → h.2.2 (X + 10) = some (.inr (wdO X u str v)) → ev_E G m_Words_cutEnclosed 56 [(0, .ref (X + 10)), (4, .int kd), (5, .int z)] [] h (rW cI X h σ [12, 14, 16]) := by
    intro z h σ S hA
    refine ev_aload_n d_Words_cutEnclosed_56 rfl rfl ?_
    refine ev_iload d_Words_cutEnclosed_57 rfl ?_
    refine ev_Vn (ci := 4) [.int kd] [] ca_Words_cutEnclosed_79 d_Words_cutEnclosed_59 rfl (hA) rfl (Nat.le_of_ble_eq_true rfl) (w_wclose hT S hA kd) (fun h1 z => ?_)
    refine ev_iload d_Words_cutEnclosed_62 rfl ?_
    refine ev_iconst (v := 1) d_Words_cutEnclosed_64 (by decide) ?_
    refine ev_iadd d_Words_cutEnclosed_65 ?_
    refine ev_iret d_Words_cutEnclosed_66 rfl ?_
    exact ⟨_, rfl, ⟨_, rfl⟩, ‹_›⟩
  intro d
  induction d with
  | zero =>
    intro i h σ hd hi S hA
    refine ev_iload d_Words_cutEnclosed_3 rfl ?_
    refine ev_iload_n d_Words_cutEnclosed_5 rfl rfl ?_
    refine ev_icmp_ge (tgt := 56) d_Words_cutEnclosed_6 (by decide) (fun _ => ?_) (fun z => absurd (nI_le (by omega) (by omega)) z)
    exact ev_as [(0, .ref (X + 10)), (4, .int kd), (5, .int (nI i))] ⟨rfl, rfl, rfl, trivial⟩ (fin _ h σ S hA)
  | succ d ih =>
    intro i h σ hd hi S hA
    have hX := S.1.2.2
    refine ev_iload d_Words_cutEnclosed_3 rfl ?_
    refine ev_iload_n d_Words_cutEnclosed_5 rfl rfl ?_
    refine ev_icmp_ge (tgt := 56) d_Words_cutEnclosed_6 (by decide) (fun _ => ?_) (fun c6 => ?_)
    · exact ev_as [(0, .ref (X + 10)), (4, .int kd), (5, .int (nI i))] ⟨rfl, rfl, rfl, trivial⟩ (fin _ h σ S hA)
    have hlt : i < n := Nat.lt_of_not_le (fun q => c6 (nI_le q (by omega)))
    refine ev_aload_n d_Words_cutEnclosed_9 rfl rfl ?_
    refine ev_get (fa_Words_25 rfl rfl) d_Words_cutEnclosed_10 hA rfl ?_
    refine ev_aload_n d_Words_cutEnclosed_13 rfl rfl ?_
    refine ev_get (fa_Words_28 rfl rfl) d_Words_cutEnclosed_14 hA rfl ?_
    refine ev_iload d_Words_cutEnclosed_17 rfl ?_
    refine ev_Vv (ci := 3) [.int v, .int (nI i)] [] ca_Words_cutEnclosed_59 d_Words_cutEnclosed_19 rfl ((S.2 u hu)) rfl (Nat.le_of_ble_eq_true rfl) (w_byteOf hT S hu v (nI i)) ?_
    generalize btO (σ (u + 1)).2.2 (σ (u + 3)).2.2 v (nI i) = y
    have a43 : ∀ j : Nat, i ≤ j → j ≤ i + 1 → ev_E G m_Words_cutEnclosed 43 [(0, .ref (X + 10)), (1, .int x1), (2, .int (nI n)), (3, .int la), (4, .int kd), (5, .int (nI j)), (6, .int y)] [] h (rW cI X h σ [12, 14, 16]) := by
      intro j j1 j2
      refine ev_aload_n d_Words_cutEnclosed_43 rfl rfl ?_
      refine ev_iload d_Words_cutEnclosed_44 rfl ?_
      refine ev_iload_n d_Words_cutEnclosed_46 rfl rfl ?_
      refine ev_Vn (ci := 4) [.int (nI j), .int (nI n)] [] ca_Words_cutEnclosed_85 d_Words_cutEnclosed_47 rfl (hA) rfl (Nat.le_of_ble_eq_true rfl) (w_putWithin hT S hu hA (nI j) (nI n)) (fun h1 z => ?_)
      obtain ⟨σ1, S1, r1, p1, -⟩ := z
      have hA1 := rwR_obj S.1 r1 hA (by omega) (nrow (by decide))
      refine ev_iinc d_Words_cutEnclosed_50 rfl (by decide) ?_
      refine ev_goto (tgt := 3) d_Words_cutEnclosed_53 (by decide) ?_
      refine ev_as [(0, .ref (X + 10)), (1, .int x1), (2, .int (nI n)), (3, .int la), (4, .int kd), (5, .int (nI (j + 1)))] ⟨rfl, rfl, rfl, rfl, rfl, ?_, trivial⟩ (ev_to (ih (j + 1) h1 σ1 (by omega) (by omega) S1 hA1) ?_)
      · show some (Value.int (nI j + Int32.ofInt 1)) = _
        rw [show nI j + Int32.ofInt 1 = nI (j + 1) from nI_1 j]
      · rintro o h' ⟨x, rfl, q1, q2⟩
        exact ⟨x, rfl, q1, tW_tr r1 p1 q2⟩
    refine ev_istore d_Words_cutEnclosed_22 (by decide) ?_
    refine ev_iload d_Words_cutEnclosed_24 rfl ?_
    refine ev_iload_n d_Words_cutEnclosed_26 rfl rfl ?_
    refine ev_icmp_ne (tgt := 33) d_Words_cutEnclosed_27 (by decide) (fun c_27 => ?_) (fun c_27 => ?_)
    · refine ev_iload d_Words_cutEnclosed_33 rfl ?_
      refine ev_bipush (v := 92) d_Words_cutEnclosed_35 (by decide) ?_
      refine ev_icmp_ne (tgt := 43) d_Words_cutEnclosed_37 (by decide) (fun c_37 => ?_) (fun c_37 => ?_)
      · exact a43 i (by omega) (by omega)
      · refine ev_iinc d_Words_cutEnclosed_40 rfl (by decide) ?_
        refine ev_as [(0, .ref (X + 10)), (1, .int x1), (2, .int (nI n)), (3, .int la), (4, .int kd), (5, .int (nI (i + 1))), (6, .int y)] ⟨rfl, rfl, rfl, rfl, rfl, ?_, rfl, trivial⟩ (a43 (i + 1) (by omega) (by omega))
        show some (Value.int (nI i + Int32.ofInt 1)) = _
        rw [show nI i + Int32.ofInt 1 = nI (i + 1) from nI_1 i]
    · refine ev_goto (tgt := 56) d_Words_cutEnclosed_30 (by decide) ?_
      exact ev_as [(0, .ref (X + 10)), (4, .int kd), (5, .int (nI i))] ⟨rfl, rfl, rfl, trivial⟩ (fin _ h σ S hA)
theorem w_cutEnclosed (hT : (gl_t G)[0]? = some (cI, .int)) {h : hp_T} {σ : rwT} (S : tS cI X h σ) (hu : u ∈ txs) (hA : h.2.2 (X + 10) = some (.inr (wdO X u str v))) {i n : Nat} (hi : i ≤ n + 1) (hn : n < 2 ^ 30) (la kd : Int32) : ct_E G m_Words_cutEnclosed [.ref (X + 10), .int (nI i), .int (nI n), .int la, .int kd] h (rW cI X h σ [12, 14, 16]) := by
  refine ct_of (ws' := tb_all) rfl rfl (Nat.le_of_ble_eq_true rfl) ?_
  refine ev_iload_n d_Words_cutEnclosed_0 rfl rfl ?_
  refine ev_istore d_Words_cutEnclosed_1 (by decide) ?_
  exact ev_as [(0, .ref (X + 10)), (1, .int (nI i)), (2, .int (nI n)), (3, .int la), (4, .int kd), (5, .int (nI i))] ⟨rfl, rfl, rfl, rfl, rfl, rfl, trivial⟩ (l_cutEnclosed hT hu hn n i h σ (by omega) hi S hA)
theorem l_cutAtom (hT : (gl_t G)[0]? = some (cI, .int)) (hSg : gSn G str) (hu : u ∈ txs) {n : Nat} (hn : n < 2 ^ 30) {x1 : Int32} : ∀ (d i : Nat) (h : hp_T) (σ : rwT), n ≤ i + d → i ≤ n → tS cI X h σ → h.2.2 (X + 10) = some (.inr (wdO X u str v)) → ev_E G m_Words_cutAtom 2 [(0, .ref (X + 10)), (1, .int x1), (2, .int (nI n)), (3, .int (nI i))] [] h (rW cI X h σ [12, 14, 16]) := by
  have m : (11 : Nat) ∈ txs := by decide
  have fin : ∀ (z : Int32) (h : hp_T) (σ : rwT), tS cI X h σ → h.2.2 (X + 10) = some (.inr (wdO X u str v)) → ev_E G m_Words_cutAtom 77 [(0, .ref (X + 10)), (3, .int z)] [] h (rW cI X h σ [12, 14, 16]) := by
    intro z h σ S hA
    refine ev_aload_n d_Words_cutAtom_77 rfl rfl ?_
    refine ev_iconst (v := 1) d_Words_cutAtom_78 (by decide) ?_
    refine ev_Vn (ci := 4) [.int 1] [] ca_Words_cutAtom_79 d_Words_cutAtom_79 rfl (hA) rfl (Nat.le_of_ble_eq_true rfl) (w_wclose hT S hA 1) (fun h1 z => ?_)
    refine ev_iload_n d_Words_cutAtom_82 rfl rfl ?_
    refine ev_iret d_Words_cutAtom_83 rfl ?_
    exact ⟨_, rfl, ⟨_, rfl⟩, ‹_›⟩
  intro d
  induction d with
  | zero =>
    intro i h σ hd hi S hA
    refine ev_iload_n d_Words_cutAtom_2 rfl rfl ?_
    refine ev_iload_n d_Words_cutAtom_3 rfl rfl ?_
    refine ev_icmp_ge (tgt := 77) d_Words_cutAtom_4 (by decide) (fun _ => ?_) (fun z => absurd (nI_le (by omega) (by omega)) z)
    exact ev_as [(0, .ref (X + 10)), (3, .int (nI i))] ⟨rfl, rfl, trivial⟩ (fin _ h σ S hA)
  | succ d ih =>
    intro i h σ hd hi S hA
    have hX := S.1.2.2
    refine ev_iload_n d_Words_cutAtom_2 rfl rfl ?_
    refine ev_iload_n d_Words_cutAtom_3 rfl rfl ?_
    refine ev_icmp_ge (tgt := 77) d_Words_cutAtom_4 (by decide) (fun _ => ?_) (fun c4 => ?_)
    · exact ev_as [(0, .ref (X + 10)), (3, .int (nI i))] ⟨rfl, rfl, trivial⟩ (fin _ h σ S hA)
    have hlt : i < n := Nat.lt_of_not_le (fun q => c4 (nI_le q (by omega)))
    refine ev_aload_n d_Words_cutAtom_7 rfl rfl ?_
    refine ev_get (fa_Words_25 rfl rfl) d_Words_cutAtom_8 hA rfl ?_
    refine ev_aload_n d_Words_cutAtom_11 rfl rfl ?_
    refine ev_get (fa_Words_28 rfl rfl) d_Words_cutAtom_12 hA rfl ?_
    refine ev_iload_n d_Words_cutAtom_15 rfl rfl ?_
    refine ev_Vv (ci := 3) [.int v, .int (nI i)] [] ca_Words_cutAtom_59 d_Words_cutAtom_16 rfl ((S.2 u hu)) rfl (Nat.le_of_ble_eq_true rfl) (w_byteOf hT S hu v (nI i)) ?_
    generalize btO (σ (u + 1)).2.2 (σ (u + 3)).2.2 v (nI i) = y
    have out : ev_E G m_Words_cutAtom 77 [(0, .ref (X + 10)), (1, .int x1), (2, .int (nI n)), (3, .int (nI i)), (4, .int y)] [] h (rW cI X h σ [12, 14, 16]) := ev_as [(0, .ref (X + 10)), (3, .int (nI i))] ⟨rfl, rfl, trivial⟩ (fin _ h σ S hA)
    refine ev_istore d_Words_cutAtom_19 (by decide) ?_
    refine ev_iload d_Words_cutAtom_21 rfl ?_
    refine ev_Sv [.int y] [] ca_Words_cutAtom_62 d_Words_cutAtom_23 rfl (Nat.le_of_ble_eq_true rfl) (w_isNothing y) ?_
    refine ev_if_ne (tgt := 77) d_Words_cutAtom_26 (by decide) (fun c_26 => ?_) (fun c_26 => ?_)
    · exact out
    · refine ev_aload_n d_Words_cutAtom_29 rfl rfl ?_
      refine ev_iload d_Words_cutAtom_30 rfl ?_
      refine ev_Vr (ci := 4) [.int y] [] ca_Words_cutAtom_73 d_Words_cutAtom_32 rfl (hA) rfl (Nat.le_of_ble_eq_true rfl) (w_isSign hSg hA y) (fun v h1 z => ?_)
      obtain ⟨⟨q, rfl⟩, z⟩ := z
      obtain rfl := z.symm
      refine ev_if_ne (tgt := 77) d_Words_cutAtom_35 (by decide) (fun c_35 => ?_) (fun c_35 => ?_)
      · exact out
      · refine ev_iload d_Words_cutAtom_38 rfl ?_
        refine ev_bipush (v := 40) d_Words_cutAtom_40 (by decide) ?_
        refine ev_icmp_eq (tgt := 77) d_Words_cutAtom_42 (by decide) (fun c_42 => ?_) (fun c_42 => ?_)
        · exact out
        · refine ev_iload d_Words_cutAtom_45 rfl ?_
          refine ev_bipush (v := 34) d_Words_cutAtom_47 (by decide) ?_
          refine ev_icmp_eq (tgt := 77) d_Words_cutAtom_49 (by decide) (fun c_49 => ?_) (fun c_49 => ?_)
          · exact out
          · refine ev_iload d_Words_cutAtom_52 rfl ?_
            refine ev_bipush (v := 91) d_Words_cutAtom_54 (by decide) ?_
            refine ev_icmp_ne (tgt := 62) d_Words_cutAtom_56 (by decide) (fun c_56 => ?_) (fun c_56 => ?_)
            · refine ev_aload_n d_Words_cutAtom_62 rfl rfl ?_
              refine ev_get (fa_Words_12 rfl rfl) d_Words_cutAtom_63 hA rfl ?_
              refine ev_iload d_Words_cutAtom_66 rfl ?_
              refine ev_Vn (ci := 3) [.int y] [] ca_Words_cutAtom_76 d_Words_cutAtom_68 rfl ((S.2 11 m)) rfl (Nat.le_of_ble_eq_true rfl) (w_put hT S m y) (fun h1 z => ?_)
              obtain ⟨σ1, S1, r1, p1, -⟩ := z
              have hA1 := rwR_obj S.1 r1 hA (by omega) (nrow (by decide))
              refine ev_iinc d_Words_cutAtom_71 rfl (by decide) ?_
              refine ev_goto (tgt := 2) d_Words_cutAtom_74 (by decide) ?_
              refine ev_as [(0, .ref (X + 10)), (1, .int x1), (2, .int (nI n)), (3, .int (nI (i + 1)))] ⟨rfl, rfl, rfl, ?_, trivial⟩ (ev_to (ih (i + 1) h1 σ1 (by omega) (by omega) S1 hA1) ?_)
              · show some (Value.int (nI i + Int32.ofInt 1)) = _
                rw [show nI i + Int32.ofInt 1 = nI (i + 1) from nI_1 i]
              · rintro o h' ⟨x, rfl, q1, q2⟩
                exact ⟨x, rfl, q1, tW_tr r1 (fun τ hτ => p1 τ (fun z => hτ (by simp at z; simp [z]))) q2⟩
            · refine ev_goto (tgt := 77) d_Words_cutAtom_59 (by decide) ?_
              exact out
theorem w_cutAtom (hT : (gl_t G)[0]? = some (cI, .int)) (hSg : gSn G str) {h : hp_T} {σ : rwT} (S : tS cI X h σ) (hu : u ∈ txs) (hA : h.2.2 (X + 10) = some (.inr (wdO X u str v))) {i n : Nat} (hi : i ≤ n) (hn : n < 2 ^ 30) : ct_E G m_Words_cutAtom [.ref (X + 10), .int (nI i), .int (nI n)] h (rW cI X h σ [12, 14, 16]) := by
  refine ct_of (ws' := tb_all) rfl rfl (Nat.le_of_ble_eq_true rfl) ?_
  refine ev_iload_n d_Words_cutAtom_0 rfl rfl ?_
  refine ev_istore_n d_Words_cutAtom_1 rfl (by decide) ?_
  exact l_cutAtom hT hSg hu hn n i h σ (by omega) hi S hA
theorem w_cutWord (hT : (gl_t G)[0]? = some (cI, .int)) (hSg : gSn G str) {h : hp_T} {σ : rwT} (S : tS cI X h σ) (hu : u ∈ txs) (hA : h.2.2 (X + 10) = some (.inr (wdO X u str v))) {i n : Nat} (hi : i < n) (hn : n < 2 ^ 30) (b : Int32) : ct_E G m_Words_cutWord [.ref (X + 10), .int (nI i), .int (nI n), .int b] h (rW cI X h σ [12, 14, 16]) := by
  have m : (11 : Nat) ∈ txs := by decide
  have hX := S.1.2.2
  refine ct_of (ws' := tb_all) rfl rfl (Nat.le_of_ble_eq_true rfl) ?_
  refine ev_aload_n d_Words_cutWord_0 rfl rfl ?_
  refine ev_get (fa_Words_25 rfl rfl) d_Words_cutWord_1 hA rfl ?_
  refine ev_aload_n d_Words_cutWord_4 rfl rfl ?_
  refine ev_get (fa_Words_28 rfl rfl) d_Words_cutWord_5 hA rfl ?_
  refine ev_iload_n d_Words_cutWord_8 rfl rfl ?_
  refine ev_Vv (ci := 3) [.int v, .int (nI i)] [] ca_Words_cutWord_59 d_Words_cutWord_9 rfl ((S.2 u hu)) rfl (Nat.le_of_ble_eq_true rfl) (w_byteOf hT S hu v (nI i)) ?_
  generalize btO (σ (u + 1)).2.2 (σ (u + 3)).2.2 v (nI i) = y
  refine ev_istore d_Words_cutWord_12 (by decide) ?_
  refine ev_iload d_Words_cutWord_14 rfl ?_
  refine ev_Sv [.int y] [] ca_Words_cutWord_62 d_Words_cutWord_16 rfl (Nat.le_of_ble_eq_true rfl) (w_isNothing y) ?_
  refine ev_if_eq (tgt := 26) d_Words_cutWord_19 (by decide) (fun c_19 => ?_) (fun c_19 => ?_)
  · refine ev_iload d_Words_cutWord_26 rfl ?_
    refine ev_bipush (v := 40) d_Words_cutWord_28 (by decide) ?_
    refine ev_icmp_ne (tgt := 43) d_Words_cutWord_30 (by decide) (fun c_30 => ?_) (fun c_30 => ?_)
    · refine ev_iload d_Words_cutWord_43 rfl ?_
      refine ev_bipush (v := 34) d_Words_cutWord_45 (by decide) ?_
      refine ev_icmp_ne (tgt := 62) d_Words_cutWord_47 (by decide) (fun c_47 => ?_) (fun c_47 => ?_)
      · refine ev_iload d_Words_cutWord_62 rfl ?_
        refine ev_bipush (v := 91) d_Words_cutWord_64 (by decide) ?_
        refine ev_icmp_ne (tgt := 81) d_Words_cutWord_66 (by decide) (fun c_66 => ?_) (fun c_66 => ?_)
        · refine ev_aload_n d_Words_cutWord_81 rfl rfl ?_
          refine ev_iload d_Words_cutWord_82 rfl ?_
          refine ev_Vr (ci := 4) [.int y] [] ca_Words_cutWord_73 d_Words_cutWord_84 rfl (hA) rfl (Nat.le_of_ble_eq_true rfl) (w_isSign hSg hA y) (fun v h1 z => ?_)
          obtain ⟨⟨q, rfl⟩, z⟩ := z
          obtain rfl := z.symm
          refine ev_if_eq (tgt := 109) d_Words_cutWord_87 (by decide) (fun c_87 => ?_) (fun c_87 => ?_)
          · refine ev_aload_n d_Words_cutWord_109 rfl rfl ?_
            refine ev_iload_n d_Words_cutWord_110 rfl rfl ?_
            refine ev_iload_n d_Words_cutWord_111 rfl rfl ?_
            refine ev_Vr (ci := 4) [.int (nI i), .int (nI n)] [] ca_Words_cutWord_82 d_Words_cutWord_112 rfl (hA) rfl (Nat.le_of_ble_eq_true rfl) (w_cutAtom hT hSg S hu hA (by omega) hn) (fun v h1 z => ?_)
            obtain ⟨⟨q, rfl⟩, z⟩ := z
            refine ev_iret d_Words_cutWord_115 rfl ?_
            exact ⟨_, rfl, ⟨_, rfl⟩, z⟩
          · refine ev_aload_n d_Words_cutWord_90 rfl rfl ?_
            refine ev_get (fa_Words_12 rfl rfl) d_Words_cutWord_91 hA rfl ?_
            refine ev_iload d_Words_cutWord_94 rfl ?_
            refine ev_Vn (ci := 3) [.int y] [] ca_Words_cutWord_76 d_Words_cutWord_96 rfl ((S.2 11 m)) rfl (Nat.le_of_ble_eq_true rfl) (w_put hT S m y) (fun h1 z => ?_)
            obtain ⟨σ1, S1, r1, p1, -⟩ := z
            have hA1 := rwR_obj S.1 r1 hA (by omega) (nrow (by decide))
            refine ev_aload_n d_Words_cutWord_99 rfl rfl ?_
            refine ev_iload d_Words_cutWord_100 rfl ?_
            refine ev_Vn (ci := 4) [.int y] [] ca_Words_cutWord_79 d_Words_cutWord_102 rfl (hA1) rfl (Nat.le_of_ble_eq_true rfl) (w_wclose hT S1 hA1 y) (fun h1 z => ?_)
            refine ev_iload_n d_Words_cutWord_105 rfl rfl ?_
            refine ev_iconst (v := 1) d_Words_cutWord_106 (by decide) ?_
            refine ev_iadd d_Words_cutWord_107 ?_
            refine ev_iret d_Words_cutWord_108 rfl ?_
            exact ⟨_, rfl, ⟨_, rfl⟩, tW_tr r1 (fun τ hτ => p1 τ (fun z => hτ (by simp at z; simp [z]))) z⟩
        · refine ev_aload_n d_Words_cutWord_69 rfl rfl ?_
          refine ev_iload_n d_Words_cutWord_70 rfl rfl ?_
          refine ev_iconst (v := 1) d_Words_cutWord_71 (by decide) ?_
          refine ev_iadd d_Words_cutWord_72 ?_
          refine ev_iload_n d_Words_cutWord_73 rfl rfl ?_
          refine ev_bipush (v := 93) d_Words_cutWord_74 (by decide) ?_
          refine ev_iconst (v := 3) d_Words_cutWord_76 (by decide) ?_
          rw [show nI i + 1 = nI (i + 1) from nI_1 i]
          refine ev_Vr (ci := 4) [.int (nI (i + 1)), .int (nI n), .int 93, .int 3] [] ca_Words_cutWord_69 d_Words_cutWord_77 rfl (hA) rfl (Nat.le_of_ble_eq_true rfl) (w_cutEnclosed hT S hu hA (by omega) hn 93 3) (fun v h1 z => ?_)
          obtain ⟨⟨q, rfl⟩, z⟩ := z
          refine ev_iret d_Words_cutWord_80 rfl ?_
          exact ⟨_, rfl, ⟨_, rfl⟩, z⟩
      · refine ev_aload_n d_Words_cutWord_50 rfl rfl ?_
        refine ev_iload_n d_Words_cutWord_51 rfl rfl ?_
        refine ev_iconst (v := 1) d_Words_cutWord_52 (by decide) ?_
        refine ev_iadd d_Words_cutWord_53 ?_
        refine ev_iload_n d_Words_cutWord_54 rfl rfl ?_
        refine ev_bipush (v := 34) d_Words_cutWord_55 (by decide) ?_
        refine ev_iconst (v := 2) d_Words_cutWord_57 (by decide) ?_
        rw [show nI i + 1 = nI (i + 1) from nI_1 i]
        refine ev_Vr (ci := 4) [.int (nI (i + 1)), .int (nI n), .int 34, .int 2] [] ca_Words_cutWord_69 d_Words_cutWord_58 rfl (hA) rfl (Nat.le_of_ble_eq_true rfl) (w_cutEnclosed hT S hu hA (by omega) hn 34 2) (fun v h1 z => ?_)
        obtain ⟨⟨q, rfl⟩, z⟩ := z
        refine ev_iret d_Words_cutWord_61 rfl ?_
        exact ⟨_, rfl, ⟨_, rfl⟩, z⟩
    · refine ev_aload_n d_Words_cutWord_33 rfl rfl ?_
      refine ev_iload_n d_Words_cutWord_34 rfl rfl ?_
      refine ev_iconst (v := 1) d_Words_cutWord_35 (by decide) ?_
      refine ev_iadd d_Words_cutWord_36 ?_
      refine ev_iload_n d_Words_cutWord_37 rfl rfl ?_
      refine ev_iload_n d_Words_cutWord_38 rfl rfl ?_
      rw [show nI i + 1 = nI (i + 1) from nI_1 i]
      refine ev_Vr (ci := 4) [.int (nI (i + 1)), .int (nI n), .int b] [] ca_Words_cutWord_66 d_Words_cutWord_39 rfl (hA) rfl (Nat.le_of_ble_eq_true rfl) (w_cutComment hT S hu hA (by omega) hn b) (fun v h1 z => ?_)
      obtain ⟨⟨q, rfl⟩, z⟩ := z
      refine ev_iret d_Words_cutWord_42 rfl ?_
      exact ⟨_, rfl, ⟨_, rfl⟩, z⟩
  · refine ev_iload_n d_Words_cutWord_22 rfl rfl ?_
    refine ev_iconst (v := 1) d_Words_cutWord_23 (by decide) ?_
    refine ev_iadd d_Words_cutWord_24 ?_
    refine ev_iret d_Words_cutWord_25 rfl ?_
    exact ⟨_, rfl, ⟨_, rfl⟩, tW_rf S⟩
theorem l_cut (hT : (gl_t G)[0]? = some (cI, .int)) (hSg : gSn G str) (hu : u ∈ txs) {n : Nat} (hn : n < 2 ^ 30) {b : Int32} : ∀ (d i : Nat) (h : hp_T) (σ : rwT), n ≤ i + d → i < 2 ^ 31 → tS cI X h σ → h.2.2 (X + 10) = some (.inr (wdO X u str v)) → ev_E G m_Words_cut 46 [(0, .ref (X + 10)), (4, .int b), (5, .int (nI n)), (6, .int (nI i))] [] h (cn (tW cI X h σ [12, 14, 16])) := by
  intro d
  induction d with
  | zero =>
    intro i h σ hd hi S hA
    refine ev_iload d_Words_cut_46 rfl ?_
    refine ev_iload d_Words_cut_48 rfl ?_
    refine ev_icmp_ge (tgt := 75) d_Words_cut_50 (by decide) (fun _ => ?_) (fun z => absurd (nI_le (by omega) hi) z)
    refine ev_vret d_Words_cut_75 rfl ?_
    exact ⟨rfl, tW_rf S⟩
  | succ d ih =>
    intro i h σ hd hi S hA
    have hX := S.1.2.2
    refine ev_iload d_Words_cut_46 rfl ?_
    refine ev_iload d_Words_cut_48 rfl ?_
    refine ev_icmp_ge (tgt := 75) d_Words_cut_50 (by decide) (fun _ => ?_) (fun c50 => ?_)
    · refine ev_vret d_Words_cut_75 rfl ?_
      exact ⟨rfl, tW_rf S⟩
    have hlt : i < n := Nat.lt_of_not_le (fun q => c50 (nI_le q (by omega)))
    refine ev_iload d_Words_cut_53 rfl ?_
    refine ev_iconst (v := 1) d_Words_cut_55 (by decide) ?_
    refine ev_iadd d_Words_cut_56 ?_
    refine ev_aload_n d_Words_cut_57 rfl rfl ?_
    refine ev_iload d_Words_cut_58 rfl ?_
    refine ev_iload d_Words_cut_60 rfl ?_
    refine ev_iload d_Words_cut_62 rfl ?_
    rw [show nI i + 1 = nI (i + 1) from nI_1 i]
    refine ev_Vr (ci := 4) [.int (nI i), .int (nI n), .int b] [.int (nI (i + 1))] ca_Words_cut_49 d_Words_cut_64 rfl (hA) rfl (Nat.le_of_ble_eq_true rfl) (w_cutWord hT hSg S hu hA hlt hn b) (fun v h1 z => ?_)
    obtain ⟨⟨q, rfl⟩, σ1, S1, r1, p1, -⟩ := z
    have hA1 := rwR_obj S.1 r1 hA (by omega) (nrow (by decide))
    refine ev_mmax (List.mem_cons_of_mem _ tw_695) (List.mem_cons_of_mem _ tw_636) (List.mem_cons_of_mem _ tw_6) (List.mem_cons_of_mem _ tw_637) (by decide) (Nat.le_of_ble_eq_true rfl) d_Words_cut_67 ?_
    obtain ⟨j, hj1, hj2, hj3⟩ : ∃ j : Nat, i < j ∧ j < 2 ^ 31 ∧ (if nI (i + 1) < q then q else nI (i + 1)) = nI j := by
      by_cases hq : nI (i + 1) < q
      · rw [if_pos hq]
        have h0 : ¬ q < 0 := fun z => nI_pos (n := i + 1) (by omega) (Int32.lt_trans hq z)
        obtain ⟨j, hj, rfl⟩ := nI_of h0
        have := (nI_ltI (by omega) hj).mp hq
        exact ⟨j, by omega, hj, rfl⟩
      · rw [if_neg hq]
        exact ⟨i + 1, by omega, by omega, rfl⟩
    rw [hj3]
    refine ev_istore d_Words_cut_70 (by decide) ?_
    refine ev_goto (tgt := 46) d_Words_cut_72 (by decide) ?_
    refine ev_as [(0, .ref (X + 10)), (4, .int b), (5, .int (nI n)), (6, .int (nI j))] ⟨rfl, rfl, rfl, rfl, trivial⟩ (ev_to (ih j h1 σ1 (by omega) hj2 S1 hA1) ?_)
    rintro o h' ⟨rfl, p⟩
    exact ⟨rfl, tW_tr r1 p1 p⟩
/-- words cut: the words' rows and object alone -/
theorem w_cut (hT : (gl_t G)[0]? = some (cI, .int)) (hSg : gSn G str) {h : hp_T} {σ : rwT} (S : tS cI X h σ) {a b c : Value} (hA : h.2.2 (X + 10) = some (.inr (4, [.ref (X + 11), .ref (X + 16), a, b, c]))) (hz : szO (σ 8).2.2 v < 0 ∨ ∃ n : Nat, n < 2 ^ 30 ∧ szO (σ 8).2.2 v = nI n) (w : Int32) : ct_E G m_Words_cut [.ref (X + 10), .ref (X + 5), .int v, .ref str, .int w] h (cn (fun h' => h'.2.2 (X + 10) = some (.inr (wdO X 5 str v)) ∧ ∃ σ', tS cI X h' σ' ∧ kR [X + 10] X h σ h' σ' ∧ ∀ τ, τ ∉ [12, 14, 16] → (σ' τ).2.2 = (σ τ).2.2)) := by
  have m : (11 : Nat) ∈ txs := by decide
  have m5 : (5 : Nat) ∈ txs := by decide
  have m16 : (16 : Nat) ∈ rws := by decide
  have hX := S.1.2.2
  refine ct_of (ws' := tb_all) rfl rfl (Nat.le_of_ble_eq_true rfl) ?_
  refine ev_aload_n d_Words_cut_0 rfl rfl ?_
  refine ev_get (fa_Words_12 rfl rfl) d_Words_cut_1 hA rfl ?_
  refine ev_Vn (ci := 3) [] [] ca_Words_cut_38 d_Words_cut_4 rfl ((S.2 11 m)) rfl (Nat.le_of_ble_eq_true rfl) (w_clear S m) (fun h1 z => ?_)
  obtain ⟨σ1, S1, r1, p1, -⟩ := z
  have hA1 := rwR_obj S.1 r1 hA (by omega) (nrow (by decide))
  refine ev_aload_n d_Words_cut_7 rfl rfl ?_
  refine ev_get (fa_Words_21 rfl rfl) d_Words_cut_8 hA1 rfl ?_
  refine ev_iconst (v := 0) d_Words_cut_11 (by decide) ?_
  refine ev_Vn (ci := 1) [.int 0] [] ca_Words_cut_41 d_Words_cut_12 rfl ((S1.1.1 _ m16).1.1) rfl (Nat.le_of_ble_eq_true rfl) (w_rcut S1 m16 0) (fun h1 z => ?_)
  obtain ⟨σ2, S2, r2, p2, -⟩ := z
  have hX1 := S1.1.2.2
  have hA2 := rwR_obj S1.1 r2 hA1 (by omega) (nrow (by decide))
  refine ev_aload_n d_Words_cut_15 rfl rfl ?_
  refine ev_aload_n d_Words_cut_16 rfl rfl ?_
  refine ev_put (fp_Words_25 rfl rfl) d_Words_cut_17 hA2 (Nat.le_of_ble_eq_true rfl) rfl rfl ?_
  refine ev_aload_n d_Words_cut_20 rfl rfl ?_
  refine ev_iload_n d_Words_cut_21 rfl rfl ?_
  refine ev_put (fp_Words_28 rfl rfl) d_Words_cut_22 (hp_up_self _ _ _) (Nat.le_of_ble_eq_true rfl) rfl rfl ?_
  rw [hp_up_up]
  refine ev_aload_n d_Words_cut_25 rfl rfl ?_
  refine ev_aload_n d_Words_cut_26 rfl rfl ?_
  refine ev_put (fp_Words_34 rfl rfl) d_Words_cut_27 (hp_up_self _ _ _) (Nat.le_of_ble_eq_true rfl) rfl rfl ?_
  rw [hp_up_up]
  show ev_E G m_Words_cut 30 _ _ (hp_up h1 (X + 10) (.inr (wdO X 5 str v))) _
  have S3 : tS cI X (hp_up h1 (X + 10) (.inr (wdO X 5 str v))) σ2 := tS_up S2 hA2 (by decide) (by decide)
  refine ev_aload_n d_Words_cut_30 rfl rfl ?_
  refine ev_get (fa_Words_25 rfl rfl) d_Words_cut_31 (hp_up_self _ _ _) rfl ?_
  refine ev_aload_n d_Words_cut_34 rfl rfl ?_
  refine ev_get (fa_Words_28 rfl rfl) d_Words_cut_35 (hp_up_self _ _ _) rfl ?_
  refine ev_Vv (ci := 3) [.int v] [] ca_Words_cut_45 d_Words_cut_38 rfl ((S3.2 5 m5)) rfl (Nat.le_of_ble_eq_true rfl) (w_sizeOf hT S3 m5 v) ?_
  rw [show (σ2 (5 + 3)).2.2 = (σ 8).2.2 from (p2 8 (by decide)).trans (p1 8 (by decide))]
  have k3 : kR [X + 10] X h σ (hp_up h1 (X + 10) (.inr (wdO X 5 str v))) σ2 := kR_tr (kR_of (rwR_tr r1 r2)) (kR_up (by simp))
  have q3 : ∀ τ, τ ∉ [12, 14, 16] → (σ2 τ).2.2 = (σ τ).2.2 := fun τ hτ => (p2 τ (fun z => hτ (by simp at z; simp [z]))).trans (p1 τ (fun z => hτ (by simp at z; rcases z with z | z <;> simp [z])))
  have hX2 := S3.1.2.2
  rcases hz with h0 | ⟨n, hn, hz⟩
  · generalize szO (σ 8).2.2 v = sz at h0 ⊢
    refine ev_istore d_Words_cut_41 (by decide) ?_
    refine ev_iconst (v := 0) d_Words_cut_43 (by decide) ?_
    refine ev_istore d_Words_cut_44 (by decide) ?_
    refine ev_iload d_Words_cut_46 rfl ?_
    refine ev_iload d_Words_cut_48 rfl ?_
    refine ev_icmp_ge (tgt := 75) d_Words_cut_50 (by decide) (fun _ => ?_) (fun z => absurd (Int32.le_of_lt h0) z)
    refine ev_vret d_Words_cut_75 rfl ?_
    exact ⟨rfl, hp_up_self _ _ _, σ2, S3, k3, q3⟩
  · rw [hz]
    refine ev_istore d_Words_cut_41 (by decide) ?_
    refine ev_iconst (v := 0) d_Words_cut_43 (by decide) ?_
    refine ev_istore d_Words_cut_44 (by decide) ?_
    refine ev_as [(0, .ref (X + 10)), (4, .int w), (5, .int (nI n)), (6, .int (nI 0))] ⟨rfl, rfl, rfl, rfl, trivial⟩ (ev_to (l_cut hT hSg m5 hn n 0 _ σ2 (by omega) (by omega) S3 (hp_up_self _ _ _)) ?_)
    rintro o h' ⟨rfl, σ', p3, p4, p5, -⟩
    exact ⟨rfl, rwR_obj S3.1 p4 (hp_up_self _ _ _) (by omega) (nrow (by decide)), σ', p3, kR_tr k3 (kR_of p4), fun τ hτ => (p5 τ hτ).trans (q3 τ hτ)⟩
end WORDS3
