/-! the class: type and parameter, weak -/
abbrev ctO (X : Nat) : Nat × List Value := (8, [.ref (X + 10), .ref (X + 41), .ref (X + 46), .ref (X + 51), .ref (X + 56), .ref (X + 58), .ref (X + 60)])
/-- the rows of a type, and of the hand -/
abbrev ctR : List Nat := [42, 44, 47, 49, 52, 54, 56, 58]
abbrev hnR : List Nat := [61, 63]
def cO (X : Nat) (h : hp_T) : Prop := h.2.2 (X + 40) = some (.inr (ctO X)) ∧ ∃ r : List Value, h.2.2 (X + 10) = some (.inr (4, .ref (X + 11) :: .ref (X + 16) :: r))
/-- answers a boolean, and changes these rows alone -/
abbrev zW (cI : ClassId) (X : Nat) (h : hp_T) (σ : rwT) (ρs : List Nat) : Option Value → hp_T → Prop := cr (fun y h' => (∃ b : Bool, y = .int (bI b)) ∧ tW cI X h σ ρs h')
section TYP4
variable {G : gl_G} {cI : ClassId} {X : Nat}
theorem cO_go {h h' : hp_T} {σ σ' : rwT} (S : tS cI X h σ) (r : rwR X h σ h' σ') (O : cO X h) : cO X h' := by
  obtain ⟨h1, q, h2⟩ := O
  have hX := S.1.2.2
  exact ⟨rwR_obj S.1 r h1 (by omega) (nrow (by decide)), q, rwR_obj S.1 r h2 (by omega) (nrow (by decide))⟩
theorem w_takePart (hNm : gl_nm G) (hT : (gl_t G)[0]? = some (cI, .int)) {h : hp_T} {σ : rwT} (S : tS cI X h σ) (O : cO X h) (k : Int32) : ct_E G m_ContentType_takePart [.ref (X + 40), .int k] h (cn (tW cI X h σ ctR)) := by
  have m11 : (11 : Nat) ∈ txs := by decide
  have m41 : (41 : Nat) ∈ txs := by decide
  obtain ⟨hA, r, hW⟩ := id O
  refine ct_of (ws' := tb_all) rfl rfl (Nat.le_of_ble_eq_true rfl) ?_
  refine ev_aload_n d_ContentType_takePart_0 rfl rfl ?_
  refine ev_get (fa_ContentType_18 rfl rfl) d_ContentType_takePart_1 hA rfl ?_
  refine ev_aload_n d_ContentType_takePart_4 rfl rfl ?_
  refine ev_get (fa_ContentType_9 rfl rfl) d_ContentType_takePart_5 hA rfl ?_
  refine ev_Vv (ci := 4) [] [.ref (X + 41)] ca_ContentType_takePart_68 d_ContentType_takePart_8 rfl (hW) rfl (Nat.le_of_ble_eq_true rfl) (w_wtexts hW) ?_
  refine ev_iload_n d_ContentType_takePart_11 rfl rfl ?_
  refine ev_aload_n d_ContentType_takePart_12 rfl rfl ?_
  refine ev_get (fa_ContentType_9 rfl rfl) d_ContentType_takePart_13 hA rfl ?_
  refine ev_Vv (ci := 4) [] [.int k, .ref (X + 11), .ref (X + 41)] ca_ContentType_takePart_68 d_ContentType_takePart_16 rfl (hW) rfl (Nat.le_of_ble_eq_true rfl) (w_wtexts hW) ?_
  refine ev_iload_n d_ContentType_takePart_19 rfl rfl ?_
  refine ev_Vv (ci := 3) [.int k] [.int k, .ref (X + 11), .ref (X + 41)] ca_ContentType_takePart_72 d_ContentType_takePart_20 rfl ((S.2 11 m11)) rfl (Nat.le_of_ble_eq_true rfl) (w_sizeOf hT S m11 k) ?_
  refine ev_Vn (ci := 3) [.ref (X + 11), .int k, .int _] [] ca_ContentType_takePart_75 d_ContentType_takePart_23 rfl ((S.2 41 m41)) rfl (Nat.le_of_ble_eq_true rfl) (w_putSmall hNm hT S m41 m11 k _) (fun h1 z => ?_)
  obtain ⟨σ1, S1, r1, p1, -⟩ := z
  have O1 := cO_go S r1 O
  refine ev_aload_n d_ContentType_takePart_26 rfl rfl ?_
  refine ev_get (fa_ContentType_18 rfl rfl) d_ContentType_takePart_27 O1.1 rfl ?_
  refine ev_Vn (ci := 3) [] [] ca_ContentType_takePart_79 d_ContentType_takePart_30 rfl ((S1.2 41 m41)) rfl (Nat.le_of_ble_eq_true rfl) (w_close hT S1 m41) (fun h1 z => ?_)
  refine ev_vret d_ContentType_takePart_33 rfl ?_
  exact ⟨rfl, tW_tr r1 (sub1 p1 (by decide)) (tP_w ‹_› (ρs' := ctR) (by decide))⟩
theorem w_takeParameter (hNm : gl_nm G) (hT : (gl_t G)[0]? = some (cI, .int)) {h : hp_T} {σ : rwT} (S : tS cI X h σ) (O : cO X h) (k : Int32) : ct_E G m_ContentType_takeParameter [.ref (X + 40), .int k] h (cn (tW cI X h σ ctR)) := by
  have m11 : (11 : Nat) ∈ txs := by decide
  have m46 : (46 : Nat) ∈ txs := by decide
  have m51 : (51 : Nat) ∈ txs := by decide
  have m16 : (16 : Nat) ∈ rws := by decide
  have m56 : (56 : Nat) ∈ rws := by decide
  have m58 : (58 : Nat) ∈ rws := by decide
  obtain ⟨hA, r, hW⟩ := id O
  refine ct_of (ws' := tb_all) rfl rfl (Nat.le_of_ble_eq_true rfl) ?_
  refine ev_aload_n d_ContentType_takeParameter_0 rfl rfl ?_
  refine ev_get (fa_ContentType_9 rfl rfl) d_ContentType_takeParameter_1 hA rfl ?_
  refine ev_Vv (ci := 4) [] [] ca_ContentType_takeParameter_48 d_ContentType_takeParameter_4 rfl (hW) rfl (Nat.le_of_ble_eq_true rfl) (w_wkinds hW) ?_
  refine ev_iload_n d_ContentType_takeParameter_7 rfl rfl ?_
  refine ev_iconst (v := 2) d_ContentType_takeParameter_8 (by decide) ?_
  refine ev_iadd d_ContentType_takeParameter_9 ?_
  refine ev_Vv (ci := 1) [.int _] [] ca_ContentType_takeParameter_54 d_ContentType_takeParameter_10 rfl ((S.1.1 _ m16).1.1) rfl (Nat.le_of_ble_eq_true rfl) (w_get hT S.1 m16 _) ?_
  generalize rg (σ 16).2.2 (k + 2) = kd
  -- behind the numbers: the names and values
  have a164 : ∀ (vl sz cd pc : Int32), ev_E G m_ContentType_takeParameter 164 [(0, .ref (X + 40)), (1, .int k), (2, .int kd), (3, .int vl), (4, .ref (X + 11)), (5, .int sz), (6, .int cd), (7, .int pc)] [] h (cn (tW cI X h σ ctR)) := by
    intro vl sz cd pc
    refine ev_aload_n d_ContentType_takeParameter_164 rfl rfl ?_
    refine ev_get (fa_ContentType_22 rfl rfl) d_ContentType_takeParameter_165 hA rfl ?_
    refine ev_aload d_ContentType_takeParameter_168 rfl ?_
    refine ev_iload_n d_ContentType_takeParameter_170 rfl rfl ?_
    refine ev_iload d_ContentType_takeParameter_171 rfl ?_
    refine ev_Vn (ci := 3) [.ref (X + 11), .int k, .int sz] [] ca_ContentType_takeParameter_75 d_ContentType_takeParameter_173 rfl ((S.2 46 m46)) rfl (Nat.le_of_ble_eq_true rfl) (w_putSmall hNm hT S m46 m11 k sz) (fun h1 z => ?_)
    obtain ⟨σ1, S1, r1, p1, -⟩ := z
    have O1 := cO_go S r1 O
    refine ev_aload_n d_ContentType_takeParameter_176 rfl rfl ?_
    refine ev_get (fa_ContentType_22 rfl rfl) d_ContentType_takeParameter_177 O1.1 rfl ?_
    refine ev_Vn (ci := 3) [] [] ca_ContentType_takeParameter_79 d_ContentType_takeParameter_180 rfl ((S1.2 46 m46)) rfl (Nat.le_of_ble_eq_true rfl) (w_close hT S1 m46) (fun h1 z => ?_)
    obtain ⟨σ2, S2, r2, p2, -⟩ := z
    have O2 := cO_go S1 r2 O1
    refine ev_aload_n d_ContentType_takeParameter_183 rfl rfl ?_
    refine ev_get (fa_ContentType_25 rfl rfl) d_ContentType_takeParameter_184 O2.1 rfl ?_
    refine ev_aload d_ContentType_takeParameter_187 rfl ?_
    refine ev_iload_n d_ContentType_takeParameter_189 rfl rfl ?_
    refine ev_iconst (v := 2) d_ContentType_takeParameter_190 (by decide) ?_
    refine ev_iadd d_ContentType_takeParameter_191 ?_
    refine ev_Vn (ci := 3) [.ref (X + 11), .int _] [] ca_ContentType_takeParameter_89 d_ContentType_takeParameter_192 rfl ((S2.2 51 m51)) rfl (Nat.le_of_ble_eq_true rfl) (w_putText hT S2 m51 m11 _) (fun h1 z => ?_)
    obtain ⟨σ3, S3, r3, p3, -⟩ := z
    have O3 := cO_go S2 r3 O2
    refine ev_aload_n d_ContentType_takeParameter_195 rfl rfl ?_
    refine ev_get (fa_ContentType_25 rfl rfl) d_ContentType_takeParameter_196 O3.1 rfl ?_
    refine ev_Vn (ci := 3) [] [] ca_ContentType_takeParameter_79 d_ContentType_takeParameter_199 rfl ((S3.2 51 m51)) rfl (Nat.le_of_ble_eq_true rfl) (w_close hT S3 m51) (fun h1 z => ?_)
    obtain ⟨σ4, S4, r4, p4, -⟩ := z
    have O4 := cO_go S3 r4 O3
    refine ev_aload_n d_ContentType_takeParameter_202 rfl rfl ?_
    refine ev_get (fa_ContentType_31 rfl rfl) d_ContentType_takeParameter_203 O4.1 rfl ?_
    refine ev_iload d_ContentType_takeParameter_206 rfl ?_
    refine ev_Vn (ci := 1) [.int pc] [] ca_ContentType_takeParameter_93 d_ContentType_takeParameter_208 rfl ((S4.1.1 _ m56).1.1) rfl (Nat.le_of_ble_eq_true rfl) (w_radd hT S4 m56 pc) (fun h1 z => ?_)
    obtain ⟨σ5, S5, r5, p5, -⟩ := z
    have O5 := cO_go S4 r5 O4
    have r15 := rwR_tr r1 (rwR_tr r2 (rwR_tr r3 (rwR_tr r4 r5)))
    have p15 : ∀ τ, τ ∉ ctR → (σ5 τ).2.2 = (σ τ).2.2 := fun τ hτ => (sub1 p5 (by decide) τ hτ).trans ((sub1 p4 (by decide) τ hτ).trans ((sub1 p3 (by decide) τ hτ).trans ((sub1 p2 (by decide) τ hτ).trans (sub1 p1 (by decide) τ hτ))))
    refine ev_aload_n d_ContentType_takeParameter_211 rfl rfl ?_
    refine ev_get (fa_ContentType_35 rfl rfl) d_ContentType_takeParameter_212 O5.1 rfl ?_
    refine ev_iload d_ContentType_takeParameter_215 rfl ?_
    refine ev_if_eq (tgt := 224) d_ContentType_takeParameter_217 (by decide) (fun c_217 => ?_) (fun c_217 => ?_)
    · refine ev_iconst (v := 0) d_ContentType_takeParameter_224 (by decide) ?_
      refine ev_Vn (ci := 1) [.int 0] [] ca_ContentType_takeParameter_93 d_ContentType_takeParameter_225 rfl ((S5.1.1 _ m58).1.1) rfl (Nat.le_of_ble_eq_true rfl) (w_radd hT S5 m58 0) (fun h1 z => ?_)
      refine ev_vret d_ContentType_takeParameter_228 rfl ?_
      exact ⟨rfl, tW_tr r15 p15 (tP_w ‹_› (ρs' := ctR) (by decide))⟩
    · refine ev_iconst (v := 1) d_ContentType_takeParameter_220 (by decide) ?_
      refine ev_goto (tgt := 225) d_ContentType_takeParameter_221 (by decide) ?_
      refine ev_Vn (ci := 1) [.int 1] [] ca_ContentType_takeParameter_93 d_ContentType_takeParameter_225 rfl ((S5.1.1 _ m58).1.1) rfl (Nat.le_of_ble_eq_true rfl) (w_radd hT S5 m58 1) (fun h1 z => ?_)
      refine ev_vret d_ContentType_takeParameter_228 rfl ?_
      exact ⟨rfl, tW_tr r15 p15 (tP_w ‹_› (ρs' := ctR) (by decide))⟩
  have a158 : ∀ (vl sz cd pc : Int32), ev_E G m_ContentType_takeParameter 158 [(0, .ref (X + 40)), (1, .int k), (2, .int kd), (3, .int vl), (4, .ref (X + 11)), (5, .int sz), (6, .int cd), (7, .int pc)] [] h (cn (tW cI X h σ ctR)) := by
    intro vl sz cd pc
    refine ev_iload d_ContentType_takeParameter_158 rfl ?_
    refine ev_if_gt (tgt := 164) d_ContentType_takeParameter_160 (by decide) (fun c_160 => ?_) (fun c_160 => ?_)
    · exact a164 vl sz cd pc
    · refine ev_vret d_ContentType_takeParameter_163 rfl ?_
      exact ⟨rfl, tW_rf S⟩
  have a147 : ∀ (vl sz cd pc : Int32), ev_E G m_ContentType_takeParameter 147 [(0, .ref (X + 40)), (1, .int k), (2, .int kd), (3, .int vl), (4, .ref (X + 11)), (5, .int sz), (6, .int cd)] [.int pc] h (cn (tW cI X h σ ctR)) := by
    intro vl sz cd pc
    refine ev_istore d_ContentType_takeParameter_147 (by decide) ?_
    refine ev_iload d_ContentType_takeParameter_149 rfl ?_
    refine ev_iconst (v := (-1)) d_ContentType_takeParameter_151 (by decide) ?_
    refine ev_icmp_eq (tgt := 158) d_ContentType_takeParameter_152 (by decide) (fun c_152 => ?_) (fun c_152 => ?_)
    · exact a158 vl sz cd pc
    · refine ev_iinc d_ContentType_takeParameter_155 rfl (by decide) ?_
      exact ev_as [(0, .ref (X + 40)), (1, .int k), (2, .int kd), (3, .int vl), (4, .ref (X + 11)), (5, .int _), (6, .int cd), (7, .int pc)] ⟨rfl, rfl, rfl, rfl, rfl, rfl, rfl, rfl, trivial⟩ (a158 vl _ cd pc)
  have a115 : ∀ (vl sz cd : Int32), ev_E G m_ContentType_takeParameter 115 [(0, .ref (X + 40)), (1, .int k), (2, .int kd), (3, .int vl), (4, .ref (X + 11)), (5, .int sz), (6, .int cd)] [] h (cn (tW cI X h σ ctR)) := by
    intro vl sz cd
    refine ev_aload d_ContentType_takeParameter_115 rfl ?_
    refine ev_iload_n d_ContentType_takeParameter_117 rfl rfl ?_
    refine ev_iload d_ContentType_takeParameter_118 rfl ?_
    refine ev_iconst (v := 2) d_ContentType_takeParameter_120 (by decide) ?_
    refine ev_isub d_ContentType_takeParameter_121 ?_
    refine ev_Vv (ci := 3) [.int k, .int _] [] ca_ContentType_takeParameter_82 d_ContentType_takeParameter_122 rfl ((S.2 11 m11)) rfl (Nat.le_of_ble_eq_true rfl) (w_byteOf hT S m11 k _) ?_
    refine ev_bipush (v := 42) d_ContentType_takeParameter_125 (by decide) ?_
    refine ev_icmp_ne (tgt := 146) d_ContentType_takeParameter_127 (by decide) (fun c_127 => ?_) (fun c_127 => ?_)
    · refine ev_iconst (v := (-1)) d_ContentType_takeParameter_146 (by decide) ?_
      exact a147 vl sz cd (-1)
    · refine ev_aload d_ContentType_takeParameter_130 rfl ?_
      refine ev_iload_n d_ContentType_takeParameter_132 rfl rfl ?_
      refine ev_iload d_ContentType_takeParameter_133 rfl ?_
      refine ev_iconst (v := 1) d_ContentType_takeParameter_135 (by decide) ?_
      refine ev_isub d_ContentType_takeParameter_136 ?_
      refine ev_Vv (ci := 3) [.int k, .int _] [] ca_ContentType_takeParameter_82 d_ContentType_takeParameter_137 rfl ((S.2 11 m11)) rfl (Nat.le_of_ble_eq_true rfl) (w_byteOf hT S m11 k _) ?_
      refine ev_Nv hNm [.int _] [] cn_ContentType_takeParameter_86 d_ContentType_takeParameter_140 rfl (Nat.le_of_ble_eq_true rfl) (w_digit _) ?_
      refine ev_goto (tgt := 147) d_ContentType_takeParameter_143 (by decide) ?_
      exact a147 vl sz cd _
  have a105 : ∀ (vl sz cd : Int32), ev_E G m_ContentType_takeParameter 105 [(0, .ref (X + 40)), (1, .int k), (2, .int kd), (3, .int vl), (4, .ref (X + 11)), (5, .int sz)] [.int cd] h (cn (tW cI X h σ ctR)) := by
    intro vl sz cd
    refine ev_istore d_ContentType_takeParameter_105 (by decide) ?_
    refine ev_iload d_ContentType_takeParameter_107 rfl ?_
    refine ev_if_eq (tgt := 115) d_ContentType_takeParameter_109 (by decide) (fun c_109 => ?_) (fun c_109 => ?_)
    · exact a115 vl sz cd
    · refine ev_iinc d_ContentType_takeParameter_112 rfl (by decide) ?_
      exact ev_as [(0, .ref (X + 40)), (1, .int k), (2, .int kd), (3, .int vl), (4, .ref (X + 11)), (5, .int _), (6, .int cd)] ⟨rfl, rfl, rfl, rfl, rfl, rfl, rfl, trivial⟩ (a115 vl _ cd)
  have a68 : ∀ vl : Int32, ev_E G m_ContentType_takeParameter 68 [(0, .ref (X + 40)), (1, .int k), (2, .int kd), (3, .int vl)] [] h (cn (tW cI X h σ ctR)) := by
    intro vl
    refine ev_aload_n d_ContentType_takeParameter_68 rfl rfl ?_
    refine ev_get (fa_ContentType_9 rfl rfl) d_ContentType_takeParameter_69 hA rfl ?_
    refine ev_Vv (ci := 4) [] [] ca_ContentType_takeParameter_68 d_ContentType_takeParameter_72 rfl (hW) rfl (Nat.le_of_ble_eq_true rfl) (w_wtexts hW) ?_
    refine ev_astore d_ContentType_takeParameter_75 (by decide) ?_
    refine ev_aload d_ContentType_takeParameter_77 rfl ?_
    refine ev_iload_n d_ContentType_takeParameter_79 rfl rfl ?_
    refine ev_Vv (ci := 3) [.int k] [] ca_ContentType_takeParameter_72 d_ContentType_takeParameter_80 rfl ((S.2 11 m11)) rfl (Nat.le_of_ble_eq_true rfl) (w_sizeOf hT S m11 k) ?_
    generalize szO (σ (11 + 3)).2.2 k = sz
    refine ev_istore d_ContentType_takeParameter_83 (by decide) ?_
    refine ev_aload d_ContentType_takeParameter_85 rfl ?_
    refine ev_iload_n d_ContentType_takeParameter_87 rfl rfl ?_
    refine ev_iload d_ContentType_takeParameter_88 rfl ?_
    refine ev_iconst (v := 1) d_ContentType_takeParameter_90 (by decide) ?_
    refine ev_isub d_ContentType_takeParameter_91 ?_
    refine ev_Vv (ci := 3) [.int k, .int _] [] ca_ContentType_takeParameter_82 d_ContentType_takeParameter_92 rfl ((S.2 11 m11)) rfl (Nat.le_of_ble_eq_true rfl) (w_byteOf hT S m11 k _) ?_
    refine ev_bipush (v := 42) d_ContentType_takeParameter_95 (by decide) ?_
    refine ev_icmp_ne (tgt := 104) d_ContentType_takeParameter_97 (by decide) (fun c_97 => ?_) (fun c_97 => ?_)
    · refine ev_iconst (v := 0) d_ContentType_takeParameter_104 (by decide) ?_
      exact a105 vl sz 0
    · refine ev_iconst (v := 1) d_ContentType_takeParameter_100 (by decide) ?_
      refine ev_goto (tgt := 105) d_ContentType_takeParameter_101 (by decide) ?_
      exact a105 vl sz 1
  have n67 : ∀ vl : Int32, ev_E G m_ContentType_takeParameter 67 [(0, .ref (X + 40)), (1, .int k), (2, .int kd), (3, .int vl)] [] h (cn (tW cI X h σ ctR)) := by
    intro vl
    refine ev_vret d_ContentType_takeParameter_67 rfl ?_
    exact ⟨rfl, tW_rf S⟩
  have a29 : ∀ vl : Int32, ev_E G m_ContentType_takeParameter 29 [(0, .ref (X + 40)), (1, .int k), (2, .int kd)] [.int vl] h (cn (tW cI X h σ ctR)) := by
    intro vl
    refine ev_istore_n d_ContentType_takeParameter_29 rfl (by decide) ?_
    refine ev_aload_n d_ContentType_takeParameter_30 rfl rfl ?_
    refine ev_get (fa_ContentType_9 rfl rfl) d_ContentType_takeParameter_31 hA rfl ?_
    refine ev_Vv (ci := 4) [] [] ca_ContentType_takeParameter_48 d_ContentType_takeParameter_34 rfl (hW) rfl (Nat.le_of_ble_eq_true rfl) (w_wkinds hW) ?_
    refine ev_iload_n d_ContentType_takeParameter_37 rfl rfl ?_
    refine ev_Vv (ci := 1) [.int k] [] ca_ContentType_takeParameter_54 d_ContentType_takeParameter_38 rfl ((S.1.1 _ m16).1.1) rfl (Nat.le_of_ble_eq_true rfl) (w_get hT S.1 m16 k) ?_
    refine ev_iconst (v := 1) d_ContentType_takeParameter_41 (by decide) ?_
    refine ev_icmp_ne (tgt := 67) d_ContentType_takeParameter_42 (by decide) (fun c_42 => ?_) (fun c_42 => ?_)
    · exact n67 vl
    · refine ev_aload_n d_ContentType_takeParameter_45 rfl rfl ?_
      refine ev_get (fa_ContentType_9 rfl rfl) d_ContentType_takeParameter_46 hA rfl ?_
      refine ev_Vv (ci := 4) [] [] ca_ContentType_takeParameter_48 d_ContentType_takeParameter_49 rfl (hW) rfl (Nat.le_of_ble_eq_true rfl) (w_wkinds hW) ?_
      refine ev_iload_n d_ContentType_takeParameter_52 rfl rfl ?_
      refine ev_iconst (v := 1) d_ContentType_takeParameter_53 (by decide) ?_
      refine ev_iadd d_ContentType_takeParameter_54 ?_
      refine ev_Vv (ci := 1) [.int _] [] ca_ContentType_takeParameter_54 d_ContentType_takeParameter_55 rfl ((S.1.1 _ m16).1.1) rfl (Nat.le_of_ble_eq_true rfl) (w_get hT S.1 m16 _) ?_
      refine ev_bipush (v := 61) d_ContentType_takeParameter_58 (by decide) ?_
      refine ev_icmp_ne (tgt := 67) d_ContentType_takeParameter_60 (by decide) (fun c_60 => ?_) (fun c_60 => ?_)
      · exact n67 vl
      · refine ev_iload_n d_ContentType_takeParameter_63 rfl rfl ?_
        refine ev_if_ne (tgt := 68) d_ContentType_takeParameter_64 (by decide) (fun c_64 => ?_) (fun c_64 => ?_)
        · exact a68 vl
        · exact n67 vl
  refine ev_istore_n d_ContentType_takeParameter_13 rfl (by decide) ?_
  refine ev_iload_n d_ContentType_takeParameter_14 rfl rfl ?_
  refine ev_iconst (v := 1) d_ContentType_takeParameter_15 (by decide) ?_
  refine ev_icmp_eq (tgt := 24) d_ContentType_takeParameter_16 (by decide) (fun c_16 => ?_) (fun c_16 => ?_)
  · refine ev_iconst (v := 1) d_ContentType_takeParameter_24 (by decide) ?_
    refine ev_goto (tgt := 29) d_ContentType_takeParameter_25 (by decide) ?_
    exact a29 1
  · refine ev_iload_n d_ContentType_takeParameter_19 rfl rfl ?_
    refine ev_iconst (v := 2) d_ContentType_takeParameter_20 (by decide) ?_
    refine ev_icmp_ne (tgt := 28) d_ContentType_takeParameter_21 (by decide) (fun c_21 => ?_) (fun c_21 => ?_)
    · refine ev_iconst (v := 0) d_ContentType_takeParameter_28 (by decide) ?_
      exact a29 0
    · refine ev_iconst (v := 1) d_ContentType_takeParameter_24 (by decide) ?_
      refine ev_goto (tgt := 29) d_ContentType_takeParameter_25 (by decide) ?_
      exact a29 1
theorem l_creadWords (hNm : gl_nm G) (hT : (gl_t G)[0]? = some (cI, .int)) : ∀ (d : Nat) (i : Int32) (h : hp_T) (σ : rwT), ((nI (σ 16).2.2.length).toInt - i.toInt).toNat = d → tS cI X h σ → cO X h → ev_E G m_ContentType_readWords 97 [(0, .ref (X + 40)), (1, .int i)] [] h (cr (fun y h' => y = .int 1 ∧ tW cI X h σ ctR h')) := by
  have m16 : (16 : Nat) ∈ rws := by decide
  intro d
  induction d using Nat.strongRecOn with
  | ind d ih =>
    intro i h σ hd S O
    obtain ⟨hA, r, hW⟩ := id O
    refine ev_iload_n d_ContentType_readWords_97 rfl rfl ?_
    refine ev_aload_n d_ContentType_readWords_98 rfl rfl ?_
    refine ev_get (fa_ContentType_9 rfl rfl) d_ContentType_readWords_99 hA rfl ?_
    refine ev_Vv (ci := 4) [] [.int i] ca_ContentType_readWords_48 d_ContentType_readWords_102 rfl (hW) rfl (Nat.le_of_ble_eq_true rfl) (w_wkinds hW) ?_
    refine ev_Vv (ci := 1) [] [.int i] ca_ContentType_readWords_61 d_ContentType_readWords_105 rfl ((S.1.1 _ m16).1.1) rfl (Nat.le_of_ble_eq_true rfl) (w_size S.1 m16) ?_
    refine ev_icmp_ge (tgt := 140) d_ContentType_readWords_108 (by decide) (fun c_108 => ?_) (fun c_108 => ?_)
    · refine ev_iconst (v := 1) d_ContentType_readWords_140 (by decide) ?_
      refine ev_zret d_ContentType_readWords_141 rfl rfl ?_
      exact ⟨_, rfl, rfl, tW_rf S⟩
    · have e1 := i32_s c_108
      have e2 := i32_lt c_108
      have on : ∀ (h2 : hp_T) (σ2 : rwT), tS cI X h2 σ2 → cO X h2 → rwR X h σ h2 σ2 → (∀ τ, τ ∉ ctR → (σ2 τ).2.2 = (σ τ).2.2) → ev_E G m_ContentType_readWords 134 [(0, .ref (X + 40)), (1, .int i)] [] h2 (cr (fun y h' => y = .int 1 ∧ tW cI X h σ ctR h')) := by
        intro h2 σ2 S2 O2 r2 p2
        refine ev_iinc d_ContentType_readWords_134 rfl (by decide) ?_
        refine ev_goto (tgt := 97) d_ContentType_readWords_137 (by decide) ?_
        refine ev_to (ih _ (by rw [p2 16 (by decide), e1]; omega) (i + 1) h2 σ2 rfl S2 O2) ?_
        rintro o h' ⟨x, rfl, q1, q2⟩
        exact ⟨x, rfl, q1, tW_tr r2 p2 q2⟩
      refine ev_aload_n d_ContentType_readWords_111 rfl rfl ?_
      refine ev_get (fa_ContentType_9 rfl rfl) d_ContentType_readWords_112 hA rfl ?_
      refine ev_Vv (ci := 4) [] [] ca_ContentType_readWords_48 d_ContentType_readWords_115 rfl (hW) rfl (Nat.le_of_ble_eq_true rfl) (w_wkinds hW) ?_
      refine ev_iload_n d_ContentType_readWords_118 rfl rfl ?_
      refine ev_Vv (ci := 1) [.int i] [] ca_ContentType_readWords_54 d_ContentType_readWords_119 rfl ((S.1.1 _ m16).1.1) rfl (Nat.le_of_ble_eq_true rfl) (w_get hT S.1 m16 i) ?_
      refine ev_bipush (v := 59) d_ContentType_readWords_122 (by decide) ?_
      refine ev_icmp_ne (tgt := 134) d_ContentType_readWords_124 (by decide) (fun c_124 => ?_) (fun c_124 => ?_)
      · exact on h σ S O rwR_rf (fun _ _ => rfl)
      · refine ev_aload_n d_ContentType_readWords_127 rfl rfl ?_
        refine ev_iload_n d_ContentType_readWords_128 rfl rfl ?_
        refine ev_iconst (v := 1) d_ContentType_readWords_129 (by decide) ?_
        refine ev_iadd d_ContentType_readWords_130 ?_
        refine ev_Vn (ci := 8) [.int _] [] ca_ContentType_readWords_65 d_ContentType_readWords_131 rfl (hA) rfl (Nat.le_of_ble_eq_true rfl) (w_takeParameter hNm hT S O _) (fun h1 z => ?_)
        obtain ⟨σ2, S2, r2, p2, -⟩ := z
        exact on h1 σ2 S2 (cO_go S r2 O) r2 p2
theorem w_creadWords (hNm : gl_nm G) (hT : (gl_t G)[0]? = some (cI, .int)) {h : hp_T} {σ : rwT} (S : tS cI X h σ) (O : cO X h) : ct_E G m_ContentType_readWords [.ref (X + 40)] h (cr (fun y h' => y = .int (bI (decide (rg (σ 16).2.2 0 = 1 ∧ rg (σ 16).2.2 1 = 47 ∧ rg (σ 16).2.2 2 = 1))) ∧ tW cI X h σ ctR h')) := by
  have m16 : (16 : Nat) ∈ rws := by decide
  have m41 : (41 : Nat) ∈ txs := by decide
  have m46 : (46 : Nat) ∈ txs := by decide
  have m51 : (51 : Nat) ∈ txs := by decide
  have m56 : (56 : Nat) ∈ rws := by decide
  have m58 : (58 : Nat) ∈ rws := by decide
  refine ct_of (ws' := tb_all) rfl rfl (Nat.le_of_ble_eq_true rfl) ?_
  refine ev_aload_n d_ContentType_readWords_0 rfl rfl ?_
  refine ev_get (fa_ContentType_18 rfl rfl) d_ContentType_readWords_1 O.1 rfl ?_
  refine ev_Vn (ci := 3) [] [] ca_ContentType_readWords_41 d_ContentType_readWords_4 rfl ((S.2 41 m41)) rfl (Nat.le_of_ble_eq_true rfl) (w_clear S m41) (fun h1 z => ?_)
  obtain ⟨σ1, S1, r1, p1, -⟩ := z
  have O1 := cO_go S r1 O
  refine ev_aload_n d_ContentType_readWords_7 rfl rfl ?_
  refine ev_get (fa_ContentType_22 rfl rfl) d_ContentType_readWords_8 O1.1 rfl ?_
  refine ev_Vn (ci := 3) [] [] ca_ContentType_readWords_41 d_ContentType_readWords_11 rfl ((S1.2 46 m46)) rfl (Nat.le_of_ble_eq_true rfl) (w_clear S1 m46) (fun h1 z => ?_)
  obtain ⟨σ2, S2, r2, p2, -⟩ := z
  have O2 := cO_go S1 r2 O1
  refine ev_aload_n d_ContentType_readWords_14 rfl rfl ?_
  refine ev_get (fa_ContentType_25 rfl rfl) d_ContentType_readWords_15 O2.1 rfl ?_
  refine ev_Vn (ci := 3) [] [] ca_ContentType_readWords_41 d_ContentType_readWords_18 rfl ((S2.2 51 m51)) rfl (Nat.le_of_ble_eq_true rfl) (w_clear S2 m51) (fun h1 z => ?_)
  obtain ⟨σ3, S3, r3, p3, -⟩ := z
  have O3 := cO_go S2 r3 O2
  refine ev_aload_n d_ContentType_readWords_21 rfl rfl ?_
  refine ev_get (fa_ContentType_31 rfl rfl) d_ContentType_readWords_22 O3.1 rfl ?_
  refine ev_iconst (v := 0) d_ContentType_readWords_25 (by decide) ?_
  refine ev_Vn (ci := 1) [.int 0] [] ca_ContentType_readWords_44 d_ContentType_readWords_26 rfl ((S3.1.1 _ m56).1.1) rfl (Nat.le_of_ble_eq_true rfl) (w_rcut S3 m56 0) (fun h1 z => ?_)
  obtain ⟨σ4, S4, r4, p4, -⟩ := z
  have O4 := cO_go S3 r4 O3
  refine ev_aload_n d_ContentType_readWords_29 rfl rfl ?_
  refine ev_get (fa_ContentType_35 rfl rfl) d_ContentType_readWords_30 O4.1 rfl ?_
  refine ev_iconst (v := 0) d_ContentType_readWords_33 (by decide) ?_
  refine ev_Vn (ci := 1) [.int 0] [] ca_ContentType_readWords_44 d_ContentType_readWords_34 rfl ((S4.1.1 _ m58).1.1) rfl (Nat.le_of_ble_eq_true rfl) (w_rcut S4 m58 0) (fun h1 z => ?_)
  obtain ⟨σ5, S5, r5, p5, -⟩ := z
  have O5 := cO_go S4 r5 O4
  have r15 := rwR_tr r1 (rwR_tr r2 (rwR_tr r3 (rwR_tr r4 r5)))
  have p15 : ∀ τ, τ ∉ ctR → (σ5 τ).2.2 = (σ τ).2.2 := fun τ hτ => (sub1 p5 (by decide) τ hτ).trans ((sub1 p4 (by decide) τ hτ).trans ((subL p3 (by decide) τ hτ).trans ((subL p2 (by decide) τ hτ).trans (subL p1 (by decide) τ hτ))))
  obtain ⟨hA, r, hW⟩ := id O5
  have e16 : (σ5 16).2.2 = (σ 16).2.2 := p15 16 (by decide)
  have no : ¬ (rg (σ 16).2.2 0 = 1 ∧ rg (σ 16).2.2 1 = 47 ∧ rg (σ 16).2.2 2 = 1) → ev_E G m_ContentType_readWords 83 [(0, .ref (X + 40))] [] h1 (cr (fun y h' => y = .int (bI (decide (rg (σ 16).2.2 0 = 1 ∧ rg (σ 16).2.2 1 = 47 ∧ rg (σ 16).2.2 2 = 1))) ∧ tW cI X h σ ctR h')) := by
    intro hn
    rw [decide_eq_false hn]
    refine ev_iconst (v := 0) d_ContentType_readWords_83 (by decide) ?_
    refine ev_zret d_ContentType_readWords_84 rfl rfl ?_
    exact ⟨_, rfl, rfl, tW_tr r15 p15 (tW_rf S5)⟩
  refine ev_aload_n d_ContentType_readWords_37 rfl rfl ?_
  refine ev_get (fa_ContentType_9 rfl rfl) d_ContentType_readWords_38 hA rfl ?_
  refine ev_Vv (ci := 4) [] [] ca_ContentType_readWords_48 d_ContentType_readWords_41 rfl (hW) rfl (Nat.le_of_ble_eq_true rfl) (w_wkinds hW) ?_
  refine ev_iconst (v := 0) d_ContentType_readWords_44 (by decide) ?_
  refine ev_Vv (ci := 1) [.int 0] [] ca_ContentType_readWords_54 d_ContentType_readWords_45 rfl ((S5.1.1 _ m16).1.1) rfl (Nat.le_of_ble_eq_true rfl) (w_get hT S5.1 m16 0) ?_
  rw [e16]
  refine ev_iconst (v := 1) d_ContentType_readWords_48 (by decide) ?_
  refine ev_icmp_ne (tgt := 83) d_ContentType_readWords_49 (by decide) (fun c_49 => ?_) (fun c_49 => ?_)
  · exact no (fun z => c_49 z.1)
  · refine ev_aload_n d_ContentType_readWords_52 rfl rfl ?_
    refine ev_get (fa_ContentType_9 rfl rfl) d_ContentType_readWords_53 hA rfl ?_
    refine ev_Vv (ci := 4) [] [] ca_ContentType_readWords_48 d_ContentType_readWords_56 rfl (hW) rfl (Nat.le_of_ble_eq_true rfl) (w_wkinds hW) ?_
    refine ev_iconst (v := 1) d_ContentType_readWords_59 (by decide) ?_
    refine ev_Vv (ci := 1) [.int 1] [] ca_ContentType_readWords_54 d_ContentType_readWords_60 rfl ((S5.1.1 _ m16).1.1) rfl (Nat.le_of_ble_eq_true rfl) (w_get hT S5.1 m16 1) ?_
    rw [e16]
    refine ev_bipush (v := 47) d_ContentType_readWords_63 (by decide) ?_
    refine ev_icmp_ne (tgt := 83) d_ContentType_readWords_65 (by decide) (fun c_65 => ?_) (fun c_65 => ?_)
    · exact no (fun z => c_65 z.2.1)
    · refine ev_aload_n d_ContentType_readWords_68 rfl rfl ?_
      refine ev_get (fa_ContentType_9 rfl rfl) d_ContentType_readWords_69 hA rfl ?_
      refine ev_Vv (ci := 4) [] [] ca_ContentType_readWords_48 d_ContentType_readWords_72 rfl (hW) rfl (Nat.le_of_ble_eq_true rfl) (w_wkinds hW) ?_
      refine ev_iconst (v := 2) d_ContentType_readWords_75 (by decide) ?_
      refine ev_Vv (ci := 1) [.int 2] [] ca_ContentType_readWords_54 d_ContentType_readWords_76 rfl ((S5.1.1 _ m16).1.1) rfl (Nat.le_of_ble_eq_true rfl) (w_get hT S5.1 m16 2) ?_
      rw [e16]
      refine ev_iconst (v := 1) d_ContentType_readWords_79 (by decide) ?_
      refine ev_icmp_eq (tgt := 85) d_ContentType_readWords_80 (by decide) (fun c_80 => ?_) (fun c_80 => ?_)
      · have eY : rg (σ 16).2.2 0 = 1 ∧ rg (σ 16).2.2 1 = 47 ∧ rg (σ 16).2.2 2 = 1 := by
          refine ⟨?_, ?_, c_80⟩
          · by_cases q : rg (σ 16).2.2 0 = 1
            · exact q
            · first | exact absurd q c_49 | exact c_49
          · by_cases q : rg (σ 16).2.2 1 = 47
            · exact q
            · first | exact absurd q c_65 | exact c_65
        rw [decide_eq_true eY]
        refine ev_aload_n d_ContentType_readWords_85 rfl rfl ?_
        refine ev_iconst (v := 0) d_ContentType_readWords_86 (by decide) ?_
        refine ev_Vn (ci := 8) [.int 0] [] ca_ContentType_readWords_58 d_ContentType_readWords_87 rfl (hA) rfl (Nat.le_of_ble_eq_true rfl) (w_takePart hNm hT S5 O5 0) (fun h1 z => ?_)
        obtain ⟨σ6, S6, r6, p6, -⟩ := z
        have O6 := cO_go S5 r6 O5
        refine ev_aload_n d_ContentType_readWords_90 rfl rfl ?_
        refine ev_iconst (v := 2) d_ContentType_readWords_91 (by decide) ?_
        refine ev_Vn (ci := 8) [.int 2] [] ca_ContentType_readWords_58 d_ContentType_readWords_92 rfl (O6.1) rfl (Nat.le_of_ble_eq_true rfl) (w_takePart hNm hT S6 O6 2) (fun h1 z => ?_)
        obtain ⟨σ7, S7, r7, p7, -⟩ := z
        have O7 := cO_go S6 r7 O6
        refine ev_iconst (v := 3) d_ContentType_readWords_95 (by decide) ?_
        refine ev_istore_n d_ContentType_readWords_96 rfl (by decide) ?_
        refine ev_to (l_creadWords hNm hT _ 3 _ σ7 rfl S7 O7) ?_
        rintro o h' ⟨x, rfl, rfl, q2⟩
        exact ⟨_, rfl, rfl, tW_tr (rwR_tr r15 (rwR_tr r6 r7)) (fun τ hτ => (p7 τ hτ).trans ((p6 τ hτ).trans (p15 τ hτ))) q2⟩
      · exact no (fun z => c_80 z.2.2)
theorem l_firstOf (hNm : gl_nm G) (hT : (gl_t G)[0]? = some (cI, .int)) {h : hp_T} {σ : rwT} (S : tS cI X h σ) (O : cO X h) {ρ : Nat} (hρ : ρ ∈ rws) {p : Int32} : ∀ (d : Nat) (i : Int32), ((nI (σ 49).2.2.length - 1).toInt - i.toInt).toNat = d → ev_E G m_ContentType_firstOf 2 [(0, .ref (X + 40)), (1, .ref (X + ρ)), (2, .int p), (3, .int i)] [] h (pu h) := by
  have m46 : (46 : Nat) ∈ txs := by decide
  have m56 : (56 : Nat) ∈ rws := by decide
  intro d
  induction d using Nat.strongRecOn with
  | ind d ih =>
    intro i hd
    refine ev_iload_n d_ContentType_firstOf_2 rfl rfl ?_
    refine ev_aload_n d_ContentType_firstOf_3 rfl rfl ?_
    refine ev_get (fa_ContentType_22 rfl rfl) d_ContentType_firstOf_4 O.1 rfl ?_
    refine ev_Vv (ci := 3) [] [.int i] ca_ContentType_firstOf_107 d_ContentType_firstOf_7 rfl ((S.2 46 m46)) rfl (Nat.le_of_ble_eq_true rfl) (c_Texts_count (tS_tx S m46)) ?_
    refine ev_icmp_ge (tgt := 45) d_ContentType_firstOf_10 (by decide) (fun c_10 => ?_) (fun c_10 => ?_)
    · refine ev_iconst (v := (-1)) d_ContentType_firstOf_45 (by decide) ?_
      refine ev_iret d_ContentType_firstOf_46 rfl ?_
      exact ⟨_, rfl, ⟨_, rfl⟩, rfl⟩
    · have e1 := i32_s c_10
      have e2 : i.toInt < (nI (σ 49).2.2.length - 1).toInt := i32_lt c_10
      have on : ev_E G m_ContentType_firstOf 39 [(0, .ref (X + 40)), (1, .ref (X + ρ)), (2, .int p), (3, .int i)] [] h (pu h) := by
        refine ev_iinc d_ContentType_firstOf_39 rfl (by decide) ?_
        refine ev_goto (tgt := 2) d_ContentType_firstOf_42 (by decide) ?_
        exact ih _ (by rw [e1]; omega) (i + 1) rfl
      refine ev_aload_n d_ContentType_firstOf_13 rfl rfl ?_
      refine ev_get (fa_ContentType_31 rfl rfl) d_ContentType_firstOf_14 O.1 rfl ?_
      refine ev_iload_n d_ContentType_firstOf_17 rfl rfl ?_
      refine ev_Vv (ci := 1) [.int i] [] ca_ContentType_firstOf_54 d_ContentType_firstOf_18 rfl ((S.1.1 _ m56).1.1) rfl (Nat.le_of_ble_eq_true rfl) (w_get hT S.1 m56 i) ?_
      refine ev_iload_n d_ContentType_firstOf_21 rfl rfl ?_
      refine ev_icmp_ne (tgt := 39) d_ContentType_firstOf_22 (by decide) (fun c_22 => ?_) (fun c_22 => ?_)
      · exact on
      · refine ev_aload_n d_ContentType_firstOf_25 rfl rfl ?_
        refine ev_get (fa_ContentType_22 rfl rfl) d_ContentType_firstOf_26 O.1 rfl ?_
        refine ev_iload_n d_ContentType_firstOf_29 rfl rfl ?_
        refine ev_aload_n d_ContentType_firstOf_30 rfl rfl ?_
        refine ev_Vv (ci := 3) [.int i, .ref (X + ρ)] [] ca_ContentType_firstOf_110 d_ContentType_firstOf_31 rfl ((S.2 46 m46)) rfl (Nat.le_of_ble_eq_true rfl) (w_isNamed hNm hT S m46 hρ i) ?_
        refine ev_if_eq (tgt := 39) d_ContentType_firstOf_34 (by decide) (fun c_34 => ?_) (fun c_34 => ?_)
        · exact on
        · refine ev_iload_n d_ContentType_firstOf_37 rfl rfl ?_
          refine ev_iret d_ContentType_firstOf_38 rfl ?_
          exact ⟨_, rfl, ⟨_, rfl⟩, rfl⟩
theorem w_firstOf (hNm : gl_nm G) (hT : (gl_t G)[0]? = some (cI, .int)) {h : hp_T} {σ : rwT} (S : tS cI X h σ) (O : cO X h) {ρ : Nat} (hρ : ρ ∈ rws) (p : Int32) : ct_E G m_ContentType_firstOf [.ref (X + 40), .ref (X + ρ), .int p] h (pu h) := by
  refine ct_of (ws' := tb_all) rfl rfl (Nat.le_of_ble_eq_true rfl) ?_
  refine ev_iconst (v := 0) d_ContentType_firstOf_0 (by decide) ?_
  refine ev_istore_n d_ContentType_firstOf_1 rfl (by decide) ?_
  exact l_firstOf hNm hT S O hρ _ _ rfl
theorem l_quoteFrom (hT : (gl_t G)[0]? = some (cI, .int)) {h : hp_T} {σ : rwT} (S : tS cI X h σ) (O : cO X h) {p f s : Int32} : ∀ (d : Nat) (i : Int32), (s.toInt - i.toInt).toNat = d → ev_E G m_ContentType_quoteFrom 12 [(0, .ref (X + 40)), (1, .int p), (2, .int f), (3, .int s), (4, .int i)] [] h (pu h) := by
  have m51 : (51 : Nat) ∈ txs := by decide
  intro d
  induction d using Nat.strongRecOn with
  | ind d ih =>
    intro i hd
    refine ev_iload d_ContentType_quoteFrom_12 rfl ?_
    refine ev_iload_n d_ContentType_quoteFrom_14 rfl rfl ?_
    refine ev_icmp_ge (tgt := 42) d_ContentType_quoteFrom_15 (by decide) (fun c_15 => ?_) (fun c_15 => ?_)
    · refine ev_iconst (v := (-1)) d_ContentType_quoteFrom_42 (by decide) ?_
      refine ev_iret d_ContentType_quoteFrom_43 rfl ?_
      exact ⟨_, rfl, ⟨_, rfl⟩, rfl⟩
    · have e1 := i32_s c_15
      have e2 := i32_lt c_15
      refine ev_aload_n d_ContentType_quoteFrom_18 rfl rfl ?_
      refine ev_get (fa_ContentType_25 rfl rfl) d_ContentType_quoteFrom_19 O.1 rfl ?_
      refine ev_iload_n d_ContentType_quoteFrom_22 rfl rfl ?_
      refine ev_iload d_ContentType_quoteFrom_23 rfl ?_
      refine ev_Vv (ci := 3) [.int p, .int i] [] ca_ContentType_quoteFrom_82 d_ContentType_quoteFrom_25 rfl ((S.2 51 m51)) rfl (Nat.le_of_ble_eq_true rfl) (w_byteOf hT S m51 p i) ?_
      refine ev_bipush (v := 39) d_ContentType_quoteFrom_28 (by decide) ?_
      refine ev_icmp_ne (tgt := 36) d_ContentType_quoteFrom_30 (by decide) (fun c_30 => ?_) (fun c_30 => ?_)
      · refine ev_iinc d_ContentType_quoteFrom_36 rfl (by decide) ?_
        refine ev_goto (tgt := 12) d_ContentType_quoteFrom_39 (by decide) ?_
        exact ih _ (by rw [e1]; omega) (i + 1) rfl
      · refine ev_iload d_ContentType_quoteFrom_33 rfl ?_
        refine ev_iret d_ContentType_quoteFrom_35 rfl ?_
        exact ⟨_, rfl, ⟨_, rfl⟩, rfl⟩
theorem w_quoteFrom (hT : (gl_t G)[0]? = some (cI, .int)) {h : hp_T} {σ : rwT} (S : tS cI X h σ) (O : cO X h) (p f : Int32) : ct_E G m_ContentType_quoteFrom [.ref (X + 40), .int p, .int f] h (pu h) := by
  have m51 : (51 : Nat) ∈ txs := by decide
  refine ct_of (ws' := tb_all) rfl rfl (Nat.le_of_ble_eq_true rfl) ?_
  refine ev_aload_n d_ContentType_quoteFrom_0 rfl rfl ?_
  refine ev_get (fa_ContentType_25 rfl rfl) d_ContentType_quoteFrom_1 O.1 rfl ?_
  refine ev_iload_n d_ContentType_quoteFrom_4 rfl rfl ?_
  refine ev_Vv (ci := 3) [.int p] [] ca_ContentType_quoteFrom_72 d_ContentType_quoteFrom_5 rfl ((S.2 51 m51)) rfl (Nat.le_of_ble_eq_true rfl) (w_sizeOf hT S m51 p) ?_
  refine ev_istore_n d_ContentType_quoteFrom_8 rfl (by decide) ?_
  refine ev_iload_n d_ContentType_quoteFrom_9 rfl rfl ?_
  refine ev_istore d_ContentType_quoteFrom_10 (by decide) ?_
  exact l_quoteFrom hT S O _ _ rfl
theorem w_putCharset (hNm : gl_nm G) (hT : (gl_t G)[0]? = some (cI, .int)) {h : hp_T} {σ : rwT} (S : tS cI X h σ) (O : cO X h) (p : Int32) : ct_E G m_ContentType_putCharset [.ref (X + 40), .int p] h (rW cI X h σ hnR) := by
  have m51 : (51 : Nat) ∈ txs := by decide
  have m60 : (60 : Nat) ∈ txs := by decide
  have m58 : (58 : Nat) ∈ rws := by decide
  have a59 : ∀ (f s : Int32) (h2 : hp_T) (σ2 : rwT), tS cI X h2 σ2 → cO X h2 → rwR X h σ h2 σ2 → (∀ τ, τ ∉ hnR → (σ2 τ).2.2 = (σ τ).2.2) → ev_E G m_ContentType_putCharset 59 [(0, .ref (X + 40)), (1, .int p), (2, .int f), (3, .int s)] [] h2 (rW cI X h σ hnR) := by
    intro f s h2 σ2 S2 O2 r2 p2
    refine ev_aload_n d_ContentType_putCharset_59 rfl rfl ?_
    refine ev_get (fa_ContentType_38 rfl rfl) d_ContentType_putCharset_60 O2.1 rfl ?_
    refine ev_Vn (ci := 3) [] [] ca_ContentType_putCharset_79 d_ContentType_putCharset_63 rfl ((S2.2 60 m60)) rfl (Nat.le_of_ble_eq_true rfl) (w_close hT S2 m60) (fun h1 z => ?_)
    have q := tW_tr r2 p2 (tP_w z (ρs' := hnR) (by decide))
    refine ev_iload_n d_ContentType_putCharset_66 rfl rfl ?_
    refine ev_iconst (v := (-1)) d_ContentType_putCharset_67 (by decide) ?_
    refine ev_icmp_eq (tgt := 77) d_ContentType_putCharset_68 (by decide) (fun c_68 => ?_) (fun c_68 => ?_)
    · refine ev_iconst (v := 0) d_ContentType_putCharset_77 (by decide) ?_
      refine ev_iret d_ContentType_putCharset_78 rfl ?_
      exact ⟨_, rfl, ⟨_, rfl⟩, q⟩
    · refine ev_iload_n d_ContentType_putCharset_71 rfl rfl ?_
      refine ev_iconst (v := 1) d_ContentType_putCharset_72 (by decide) ?_
      refine ev_iadd d_ContentType_putCharset_73 ?_
      refine ev_goto (tgt := 78) d_ContentType_putCharset_74 (by decide) ?_
      refine ev_iret d_ContentType_putCharset_78 rfl ?_
      exact ⟨_, rfl, ⟨_, rfl⟩, q⟩
  have a40 : ∀ f s : Int32, ev_E G m_ContentType_putCharset 40 [(0, .ref (X + 40)), (1, .int p), (2, .int f)] [.int s] h (rW cI X h σ hnR) := by
    intro f s
    refine ev_istore_n d_ContentType_putCharset_40 rfl (by decide) ?_
    refine ev_iload_n d_ContentType_putCharset_41 rfl rfl ?_
    refine ev_iconst (v := (-1)) d_ContentType_putCharset_42 (by decide) ?_
    refine ev_icmp_eq (tgt := 59) d_ContentType_putCharset_43 (by decide) (fun c_43 => ?_) (fun c_43 => ?_)
    · exact a59 f s h σ S O rwR_rf (fun _ _ => rfl)
    · refine ev_aload_n d_ContentType_putCharset_46 rfl rfl ?_
      refine ev_get (fa_ContentType_38 rfl rfl) d_ContentType_putCharset_47 O.1 rfl ?_
      refine ev_aload_n d_ContentType_putCharset_50 rfl rfl ?_
      refine ev_get (fa_ContentType_25 rfl rfl) d_ContentType_putCharset_51 O.1 rfl ?_
      refine ev_iload_n d_ContentType_putCharset_54 rfl rfl ?_
      refine ev_iload_n d_ContentType_putCharset_55 rfl rfl ?_
      refine ev_Vn (ci := 3) [.ref (X + 51), .int p, .int f] [] ca_ContentType_putCharset_75 d_ContentType_putCharset_56 rfl ((S.2 60 m60)) rfl (Nat.le_of_ble_eq_true rfl) (w_putSmall hNm hT S m60 m51 p f) (fun h1 z => ?_)
      obtain ⟨σ2, S2, r2, p2, -⟩ := z
      exact a59 f s h1 σ2 S2 (cO_go S r2 O) r2 (sub1 p2 (by decide))
  have a22 : ∀ f : Int32, ev_E G m_ContentType_putCharset 22 [(0, .ref (X + 40)), (1, .int p)] [.int f] h (rW cI X h σ hnR) := by
    intro f
    refine ev_istore_n d_ContentType_putCharset_22 rfl (by decide) ?_
    refine ev_iload_n d_ContentType_putCharset_23 rfl rfl ?_
    refine ev_iconst (v := (-1)) d_ContentType_putCharset_24 (by decide) ?_
    refine ev_icmp_eq (tgt := 39) d_ContentType_putCharset_25 (by decide) (fun c_25 => ?_) (fun c_25 => ?_)
    · refine ev_iconst (v := (-1)) d_ContentType_putCharset_39 (by decide) ?_
      exact a40 f (-1)
    · refine ev_aload_n d_ContentType_putCharset_28 rfl rfl ?_
      refine ev_iload_n d_ContentType_putCharset_29 rfl rfl ?_
      refine ev_iload_n d_ContentType_putCharset_30 rfl rfl ?_
      refine ev_iconst (v := 1) d_ContentType_putCharset_31 (by decide) ?_
      refine ev_iadd d_ContentType_putCharset_32 ?_
      refine ev_Vr (ci := 8) [.int p, .int _] [] ca_ContentType_putCharset_114 d_ContentType_putCharset_33 rfl (O.1) rfl (Nat.le_of_ble_eq_true rfl) (w_quoteFrom hT S O p _) (fun v h1 z => ?_)
      obtain ⟨⟨q, rfl⟩, z⟩ := z
      obtain rfl := z.symm
      refine ev_goto (tgt := 40) d_ContentType_putCharset_36 (by decide) ?_
      exact a40 f q
  refine ct_of (ws' := tb_all) rfl rfl (Nat.le_of_ble_eq_true rfl) ?_
  refine ev_aload_n d_ContentType_putCharset_0 rfl rfl ?_
  refine ev_get (fa_ContentType_35 rfl rfl) d_ContentType_putCharset_1 O.1 rfl ?_
  refine ev_iload_n d_ContentType_putCharset_4 rfl rfl ?_
  refine ev_Vv (ci := 1) [.int p] [] ca_ContentType_putCharset_54 d_ContentType_putCharset_5 rfl ((S.1.1 _ m58).1.1) rfl (Nat.le_of_ble_eq_true rfl) (w_get hT S.1 m58 p) ?_
  refine ev_iconst (v := 1) d_ContentType_putCharset_8 (by decide) ?_
  refine ev_icmp_ne (tgt := 21) d_ContentType_putCharset_9 (by decide) (fun c_9 => ?_) (fun c_9 => ?_)
  · refine ev_iconst (v := (-1)) d_ContentType_putCharset_21 (by decide) ?_
    exact a22 (-1)
  · refine ev_aload_n d_ContentType_putCharset_12 rfl rfl ?_
    refine ev_iload_n d_ContentType_putCharset_13 rfl rfl ?_
    refine ev_iconst (v := 0) d_ContentType_putCharset_14 (by decide) ?_
    refine ev_Vr (ci := 8) [.int p, .int 0] [] ca_ContentType_putCharset_114 d_ContentType_putCharset_15 rfl (O.1) rfl (Nat.le_of_ble_eq_true rfl) (w_quoteFrom hT S O p 0) (fun v h1 z => ?_)
    obtain ⟨⟨q, rfl⟩, z⟩ := z
    obtain rfl := z.symm
    refine ev_goto (tgt := 22) d_ContentType_putCharset_18 (by decide) ?_
    exact a22 q
/-- hexDigit -/
def hxD (c : Int32) : Int32 := if ¬ sp_small c < 97 ∧ ¬ 102 < sp_small c then sp_small c - 97 + 10 else sp_dig c
theorem w_hexDigit (hNm : gl_nm G) {h : hp_T} (c : Int32) : ct_E G m_ContentType_hexDigit [.int c] h (cv (.int (hxD c)) h) := by
  refine ct_of (ws' := tb_all) rfl rfl (Nat.le_of_ble_eq_true rfl) ?_
  unfold hxD
  refine ev_iload_n d_ContentType_hexDigit_0 rfl rfl ?_
  refine ev_Nv hNm [.int c] [] cn_ContentType_hexDigit_126 d_ContentType_hexDigit_1 rfl (Nat.le_of_ble_eq_true rfl) (w_small c) ?_
  have no : ev_E G m_ContentType_hexDigit 27 [(0, .int c), (1, .int (sp_small c))] [] h (cv (.int (sp_dig c)) h) := by
    refine ev_iload_n d_ContentType_hexDigit_27 rfl rfl ?_
    refine ev_Nv hNm [.int c] [] cn_ContentType_hexDigit_86 d_ContentType_hexDigit_28 rfl (Nat.le_of_ble_eq_true rfl) (w_digit c) ?_
    refine ev_iret d_ContentType_hexDigit_31 rfl ?_
    exact ⟨rfl, rfl⟩
  refine ev_istore_n d_ContentType_hexDigit_4 rfl (by decide) ?_
  refine ev_iload_n d_ContentType_hexDigit_5 rfl rfl ?_
  refine ev_bipush (v := 97) d_ContentType_hexDigit_6 (by decide) ?_
  refine ev_icmp_lt (tgt := 27) d_ContentType_hexDigit_8 (by decide) (fun c_8 => ?_) (fun c_8 => ?_)
  · rw [if_neg (fun z => z.1 c_8)]
    exact no
  · refine ev_iload_n d_ContentType_hexDigit_11 rfl rfl ?_
    refine ev_bipush (v := 102) d_ContentType_hexDigit_12 (by decide) ?_
    refine ev_icmp_gt (tgt := 27) d_ContentType_hexDigit_14 (by decide) (fun c_14 => ?_) (fun c_14 => ?_)
    · rw [if_neg (fun z => z.2 c_14)]
      exact no
    · rw [if_pos ⟨c_8, c_14⟩]
      refine ev_iload_n d_ContentType_hexDigit_17 rfl rfl ?_
      refine ev_bipush (v := 97) d_ContentType_hexDigit_18 (by decide) ?_
      refine ev_isub d_ContentType_hexDigit_20 ?_
      refine ev_bipush (v := 10) d_ContentType_hexDigit_21 (by decide) ?_
      refine ev_iadd d_ContentType_hexDigit_23 ?_
      refine ev_goto (tgt := 31) d_ContentType_hexDigit_24 (by decide) ?_
      refine ev_iret d_ContentType_hexDigit_31 rfl ?_
      exact ⟨rfl, rfl⟩
theorem w_hexadecimal (hNm : gl_nm G) (hT : (gl_t G)[0]? = some (cI, .int)) {h : hp_T} {σ : rwT} (S : tS cI X h σ) (O : cO X h) (p a : Int32) : ct_E G m_ContentType_hexadecimal [.ref (X + 40), .int p, .int a] h (cr (fun y h' => (∃ q : Int32, y = .int q ∧ (q = -1 ∨ ¬ a + 1 < 0 ∧ ¬ szO (σ 54).2.2 p ≤ a + 1)) ∧ h' = h)) := by
  have m51 : (51 : Nat) ∈ txs := by decide
  refine ct_of (ws' := tb_all) rfl rfl (Nat.le_of_ble_eq_true rfl) ?_
  refine ev_aload_n d_ContentType_hexadecimal_0 rfl rfl ?_
  refine ev_get (fa_ContentType_25 rfl rfl) d_ContentType_hexadecimal_1 O.1 rfl ?_
  refine ev_iload_n d_ContentType_hexadecimal_4 rfl rfl ?_
  refine ev_iload_n d_ContentType_hexadecimal_5 rfl rfl ?_
  refine ev_Vv (ci := 3) [.int p, .int a] [] ca_ContentType_hexadecimal_82 d_ContentType_hexadecimal_6 rfl ((S.2 51 m51)) rfl (Nat.le_of_ble_eq_true rfl) (w_byteOf hT S m51 p a) ?_
  refine ev_Sv [.int _] [] ca_ContentType_hexadecimal_123 d_ContentType_hexadecimal_9 rfl (Nat.le_of_ble_eq_true rfl) (w_hexDigit hNm _) ?_
  generalize hxD (btO (σ (51 + 1)).2.2 (σ (51 + 3)).2.2 p a) = hi
  refine ev_istore_n d_ContentType_hexadecimal_12 rfl (by decide) ?_
  refine ev_aload_n d_ContentType_hexadecimal_13 rfl rfl ?_
  refine ev_get (fa_ContentType_25 rfl rfl) d_ContentType_hexadecimal_14 O.1 rfl ?_
  refine ev_iload_n d_ContentType_hexadecimal_17 rfl rfl ?_
  refine ev_iload_n d_ContentType_hexadecimal_18 rfl rfl ?_
  refine ev_iconst (v := 1) d_ContentType_hexadecimal_19 (by decide) ?_
  refine ev_iadd d_ContentType_hexadecimal_20 ?_
  refine ev_Vv (ci := 3) [.int p, .int _] [] ca_ContentType_hexadecimal_82 d_ContentType_hexadecimal_21 rfl ((S.2 51 m51)) rfl (Nat.le_of_ble_eq_true rfl) (w_byteOf hT S m51 p _) ?_
  refine ev_Sv [.int _] [] ca_ContentType_hexadecimal_123 d_ContentType_hexadecimal_24 rfl (Nat.le_of_ble_eq_true rfl) (w_hexDigit hNm _) ?_
  refine ev_istore d_ContentType_hexadecimal_27 (by decide) ?_
  refine ev_iload_n d_ContentType_hexadecimal_29 rfl rfl ?_
  refine ev_iconst (v := (-1)) d_ContentType_hexadecimal_30 (by decide) ?_
  have no : ∀ lo : Int32, ev_E G m_ContentType_hexadecimal 40 [(0, .ref (X + 40)), (1, .int p), (2, .int a), (3, .int hi), (4, .int lo)] [] h (cr (fun y h' => (∃ q : Int32, y = .int q ∧ (q = -1 ∨ ¬ a + 1 < 0 ∧ ¬ szO (σ 54).2.2 p ≤ a + 1)) ∧ h' = h)) := by
    intro lo
    refine ev_iconst (v := (-1)) d_ContentType_hexadecimal_40 (by decide) ?_
    refine ev_goto (tgt := 51) d_ContentType_hexadecimal_41 (by decide) ?_
    refine ev_iret d_ContentType_hexadecimal_51 rfl ?_
    exact ⟨_, rfl, ⟨_, rfl, Or.inl rfl⟩, rfl⟩
  refine ev_icmp_eq (tgt := 40) d_ContentType_hexadecimal_31 (by decide) (fun c_31 => ?_) (fun c_31 => ?_)
  · exact no _
  · refine ev_iload d_ContentType_hexadecimal_34 rfl ?_
    refine ev_iconst (v := (-1)) d_ContentType_hexadecimal_36 (by decide) ?_
    refine ev_icmp_ne (tgt := 44) d_ContentType_hexadecimal_37 (by decide) (fun c_37 => ?_) (fun c_37 => ?_)
    · refine ev_bipush (v := 16) d_ContentType_hexadecimal_44 (by decide) ?_
      refine ev_iload_n d_ContentType_hexadecimal_46 rfl rfl ?_
      refine ev_imul d_ContentType_hexadecimal_47 ?_
      refine ev_iload d_ContentType_hexadecimal_48 rfl ?_
      refine ev_iadd d_ContentType_hexadecimal_50 ?_
      refine ev_iret d_ContentType_hexadecimal_51 rfl ?_
      refine ⟨_, rfl, ⟨_, rfl, Or.inr ⟨fun z => c_37 ?_, fun z => c_37 ?_⟩⟩, rfl⟩
      · show hxD (btO _ _ p (a + 1)) = -1
        rw [btO, if_pos z]; decide
      · show hxD (btO _ _ p (a + 1)) = -1
        by_cases z0 : a + 1 < 0
        · rw [btO, if_pos z0]; decide
        · rw [btO, if_neg z0, if_pos z]; decide
    · exact no _
theorem l_cputBytes (hNm : gl_nm G) (hT : (gl_t G)[0]? = some (cI, .int)) {p f cd s : Int32} : ∀ (d : Nat) (i : Int32) (h : hp_T) (σ : rwT), (s.toInt - i.toInt).toNat = d → szO (σ 54).2.2 p = s → tS cI X h σ → cO X h → ev_E G m_ContentType_putBytes 31 [(0, .ref (X + 40)), (1, .int p), (2, .int f), (3, .int cd), (4, .int s), (5, .int i)] [] h (cn (tW cI X h σ hnR)) := by
  have m51 : (51 : Nat) ∈ txs := by decide
  have m60 : (60 : Nat) ∈ txs := by decide
  intro d
  induction d using Nat.strongRecOn with
  | ind d ih =>
    intro i h σ hd hs S O
    refine ev_iload d_ContentType_putBytes_31 rfl ?_
    refine ev_iload d_ContentType_putBytes_33 rfl ?_
    refine ev_icmp_ge (tgt := 112) d_ContentType_putBytes_35 (by decide) (fun c_35 => ?_) (fun c_35 => ?_)
    · refine ev_vret d_ContentType_putBytes_112 rfl ?_
      exact ⟨rfl, tW_rf S⟩
    · have e1 := i32_s c_35
      have e2 := i32_lt c_35
      refine ev_aload_n d_ContentType_putBytes_38 rfl rfl ?_
      refine ev_get (fa_ContentType_25 rfl rfl) d_ContentType_putBytes_39 O.1 rfl ?_
      refine ev_iload_n d_ContentType_putBytes_42 rfl rfl ?_
      refine ev_iload d_ContentType_putBytes_43 rfl ?_
      refine ev_Vv (ci := 3) [.int p, .int i] [] ca_ContentType_putBytes_82 d_ContentType_putBytes_45 rfl ((S.2 51 m51)) rfl (Nat.le_of_ble_eq_true rfl) (w_byteOf hT S m51 p i) ?_
      generalize btO (σ (51 + 1)).2.2 (σ (51 + 3)).2.2 p i = y
      have a82 : ev_E G m_ContentType_putBytes 74 [(0, .ref (X + 40)), (1, .int p), (2, .int f), (3, .int cd), (4, .int s), (5, .int i), (6, .int y)] [.int (-1)] h (cn (tW cI X h σ hnR)) := by
        refine ev_istore d_ContentType_putBytes_74 (by decide) ?_
        refine ev_iload d_ContentType_putBytes_76 rfl ?_
        refine ev_iconst (v := (-1)) d_ContentType_putBytes_78 (by decide) ?_
        refine ev_icmp_ne (tgt := 94) d_ContentType_putBytes_79 (by decide) (fun z => absurd rfl z) (fun _ => ?_)
        refine ev_aload_n d_ContentType_putBytes_82 rfl rfl ?_
        refine ev_get (fa_ContentType_38 rfl rfl) d_ContentType_putBytes_83 O.1 rfl ?_
        refine ev_iload d_ContentType_putBytes_86 rfl ?_
        refine ev_Vn (ci := 3) [.int y] [] ca_ContentType_putBytes_120 d_ContentType_putBytes_88 rfl ((S.2 60 m60)) rfl (Nat.le_of_ble_eq_true rfl) (w_put hT S m60 y) (fun h1 z => ?_)
        obtain ⟨σ2, S2, r2, p2, -⟩ := z
        refine ev_goto (tgt := 106) d_ContentType_putBytes_91 (by decide) ?_
        refine ev_iinc d_ContentType_putBytes_106 rfl (by decide) ?_
        refine ev_goto (tgt := 31) d_ContentType_putBytes_109 (by decide) ?_
        refine ev_as [(0, .ref (X + 40)), (1, .int p), (2, .int f), (3, .int cd), (4, .int s), (5, .int (i + 1))] ⟨rfl, rfl, rfl, rfl, rfl, rfl, trivial⟩ (ev_to (ih _ (by rw [e1]; omega) (i + 1) h1 σ2 rfl (by rw [p2 54 (by decide)]; exact hs) S2 (cO_go S r2 O)) ?_)
        rintro o h' ⟨rfl, q⟩
        exact ⟨rfl, tW_tr r2 (sub1 p2 (by decide)) q⟩
      have a94 : ∀ q : Int32, ¬ i + 2 < 0 → ¬ s ≤ i + 2 → ev_E G m_ContentType_putBytes 94 [(0, .ref (X + 40)), (1, .int p), (2, .int f), (3, .int cd), (4, .int s), (5, .int i), (6, .int y), (7, .int q)] [] h (cn (tW cI X h σ hnR)) := by
        intro q g1 g2
        have e3 := i32_s3 c_35 g2 g1
        refine ev_aload_n d_ContentType_putBytes_94 rfl rfl ?_
        refine ev_get (fa_ContentType_38 rfl rfl) d_ContentType_putBytes_95 O.1 rfl ?_
        refine ev_iload d_ContentType_putBytes_98 rfl ?_
        refine ev_Vn (ci := 3) [.int q] [] ca_ContentType_putBytes_120 d_ContentType_putBytes_100 rfl ((S.2 60 m60)) rfl (Nat.le_of_ble_eq_true rfl) (w_put hT S m60 q) (fun h1 z => ?_)
        obtain ⟨σ2, S2, r2, p2, -⟩ := z
        refine ev_iinc d_ContentType_putBytes_103 rfl (by decide) ?_
        refine ev_iinc d_ContentType_putBytes_106 rfl (by decide) ?_
        refine ev_goto (tgt := 31) d_ContentType_putBytes_109 (by decide) ?_
        refine ev_as [(0, .ref (X + 40)), (1, .int p), (2, .int f), (3, .int cd), (4, .int s), (5, .int (i + 2 + 1))] ⟨rfl, rfl, rfl, rfl, rfl, rfl, trivial⟩ (ev_to (ih _ (by rw [e3]; omega) (i + 2 + 1) h1 σ2 rfl (by rw [p2 54 (by decide)]; exact hs) S2 (cO_go S r2 O)) ?_)
        rintro o h' ⟨rfl, q⟩
        exact ⟨rfl, tW_tr r2 (sub1 p2 (by decide)) q⟩
      refine ev_istore d_ContentType_putBytes_48 (by decide) ?_
      refine ev_iload_n d_ContentType_putBytes_50 rfl rfl ?_
      refine ev_if_eq (tgt := 73) d_ContentType_putBytes_51 (by decide) (fun c_51 => ?_) (fun c_51 => ?_)
      · refine ev_iconst (v := (-1)) d_ContentType_putBytes_73 (by decide) ?_
        exact a82
      · refine ev_iload d_ContentType_putBytes_54 rfl ?_
        refine ev_bipush (v := 37) d_ContentType_putBytes_56 (by decide) ?_
        refine ev_icmp_ne (tgt := 73) d_ContentType_putBytes_58 (by decide) (fun c_58 => ?_) (fun c_58 => ?_)
        · refine ev_iconst (v := (-1)) d_ContentType_putBytes_73 (by decide) ?_
          exact a82
        · refine ev_aload_n d_ContentType_putBytes_61 rfl rfl ?_
          refine ev_iload_n d_ContentType_putBytes_62 rfl rfl ?_
          refine ev_iload d_ContentType_putBytes_63 rfl ?_
          refine ev_iconst (v := 1) d_ContentType_putBytes_65 (by decide) ?_
          refine ev_iadd d_ContentType_putBytes_66 ?_
          refine ev_Vr (ci := 8) [.int p, .int _] [] ca_ContentType_putBytes_117 d_ContentType_putBytes_67 rfl (O.1) rfl (Nat.le_of_ble_eq_true rfl) (w_hexadecimal hNm hT S O p _) (fun v h1 z => ?_)
          obtain ⟨⟨q, rfl, hq⟩, z⟩ := z
          obtain rfl := z.symm
          refine ev_goto (tgt := 74) d_ContentType_putBytes_70 (by decide) ?_
          rcases hq with rfl | ⟨g1, g2⟩
          · exact a82
          · rw [a11] at g1 g2
            rw [hs] at g2
            by_cases hm : q = -1
            · rw [hm]; exact a82
            · refine ev_istore d_ContentType_putBytes_74 (by decide) ?_
              refine ev_iload d_ContentType_putBytes_76 rfl ?_
              refine ev_iconst (v := (-1)) d_ContentType_putBytes_78 (by decide) ?_
              refine ev_icmp_ne (tgt := 94) d_ContentType_putBytes_79 (by decide) (fun _ => ?_) (fun z => absurd z hm)
              exact a94 q g1 g2
theorem w_cputBytes (hNm : gl_nm G) (hT : (gl_t G)[0]? = some (cI, .int)) {h : hp_T} {σ : rwT} (S : tS cI X h σ) (O : cO X h) (p f : Int32) : ct_E G m_ContentType_putBytes [.ref (X + 40), .int p, .int f] h (cn (tW cI X h σ hnR)) := by
  have m51 : (51 : Nat) ∈ txs := by decide
  have m58 : (58 : Nat) ∈ rws := by decide
  have a17 : ∀ cd : Int32, ev_E G m_ContentType_putBytes 17 [(0, .ref (X + 40)), (1, .int p), (2, .int f)] [.int cd] h (cn (tW cI X h σ hnR)) := by
    intro cd
    refine ev_istore_n d_ContentType_putBytes_17 rfl (by decide) ?_
    refine ev_aload_n d_ContentType_putBytes_18 rfl rfl ?_
    refine ev_get (fa_ContentType_25 rfl rfl) d_ContentType_putBytes_19 O.1 rfl ?_
    refine ev_iload_n d_ContentType_putBytes_22 rfl rfl ?_
    refine ev_Vv (ci := 3) [.int p] [] ca_ContentType_putBytes_72 d_ContentType_putBytes_23 rfl ((S.2 51 m51)) rfl (Nat.le_of_ble_eq_true rfl) (w_sizeOf hT S m51 p) ?_
    refine ev_istore d_ContentType_putBytes_26 (by decide) ?_
    refine ev_iload_n d_ContentType_putBytes_28 rfl rfl ?_
    refine ev_istore d_ContentType_putBytes_29 (by decide) ?_
    exact l_cputBytes hNm hT _ f h σ rfl rfl S O
  refine ct_of (ws' := tb_all) rfl rfl (Nat.le_of_ble_eq_true rfl) ?_
  refine ev_aload_n d_ContentType_putBytes_0 rfl rfl ?_
  refine ev_get (fa_ContentType_35 rfl rfl) d_ContentType_putBytes_1 O.1 rfl ?_
  refine ev_iload_n d_ContentType_putBytes_4 rfl rfl ?_
  refine ev_Vv (ci := 1) [.int p] [] ca_ContentType_putBytes_54 d_ContentType_putBytes_5 rfl ((S.1.1 _ m58).1.1) rfl (Nat.le_of_ble_eq_true rfl) (w_get hT S.1 m58 p) ?_
  refine ev_iconst (v := 1) d_ContentType_putBytes_8 (by decide) ?_
  refine ev_icmp_ne (tgt := 16) d_ContentType_putBytes_9 (by decide) (fun c_9 => ?_) (fun c_9 => ?_)
  · refine ev_iconst (v := 0) d_ContentType_putBytes_16 (by decide) ?_
    exact a17 0
  · refine ev_iconst (v := 1) d_ContentType_putBytes_12 (by decide) ?_
    refine ev_goto (tgt := 17) d_ContentType_putBytes_13 (by decide) ?_
    exact a17 1
theorem l_takeInHand (hNm : gl_nm G) (hT : (gl_t G)[0]? = some (cI, .int)) {ρ : Nat} (hρ : ρ ∈ rws) {f ip : Int32} : ∀ (d j : Nat) (h : hp_T) (σ : rwT), j + d = 10 → tS cI X h σ → cO X h → ev_E G m_ContentType_takeInHand 56 [(0, .ref (X + 40)), (1, .ref (X + ρ)), (2, .int f), (3, .int ip), (4, .int (nI j))] [] h (rW cI X h σ hnR) := by
  have m60 : (60 : Nat) ∈ txs := by decide
  have fin : ∀ (h : hp_T) (σ : rwT), tS cI X h σ → cO X h → ev_E G m_ContentType_takeInHand 98 [(0, .ref (X + 40))] [] h (rW cI X h σ hnR) := by
    intro h σ S O
    refine ev_aload_n d_ContentType_takeInHand_98 rfl rfl ?_
    refine ev_get (fa_ContentType_38 rfl rfl) d_ContentType_takeInHand_99 O.1 rfl ?_
    refine ev_Vn (ci := 3) [] [] ca_ContentType_takeInHand_79 d_ContentType_takeInHand_102 rfl ((S.2 60 m60)) rfl (Nat.le_of_ble_eq_true rfl) (w_close hT S m60) (fun h1 z => ?_)
    have q := tP_w z (ρs' := hnR) (by decide)
    obtain ⟨σ1, S1, r1, p1, -⟩ := z
    have O1 := cO_go S r1 O
    refine ev_aload_n d_ContentType_takeInHand_105 rfl rfl ?_
    refine ev_get (fa_ContentType_38 rfl rfl) d_ContentType_takeInHand_106 O1.1 rfl ?_
    refine ev_iconst (v := 1) d_ContentType_takeInHand_109 (by decide) ?_
    refine ev_Vv (ci := 3) [.int 1] [] ca_ContentType_takeInHand_72 d_ContentType_takeInHand_110 rfl ((S1.2 60 m60)) rfl (Nat.le_of_ble_eq_true rfl) (w_sizeOf hT S1 m60 1) ?_
    refine ev_iret d_ContentType_takeInHand_113 rfl ?_
    exact ⟨_, rfl, ⟨_, rfl⟩, q⟩
  intro d
  induction d with
  | zero =>
    intro j h σ hj S O
    refine ev_iload_n d_ContentType_takeInHand_56 rfl rfl ?_
    refine ev_if_eq (tgt := 98) d_ContentType_takeInHand_57 (by decide) (fun c_57 => ?_) (fun c_57 => ?_)
    · exact ev_as [(0, .ref (X + 40))] ⟨rfl, trivial⟩ (fin h σ S O)
    · refine ev_iload d_ContentType_takeInHand_60 rfl ?_
      refine ev_bipush (v := 9) d_ContentType_takeInHand_62 (by decide) ?_
      have ej : j = 10 := by omega
      subst ej
      refine ev_icmp_gt (tgt := 98) d_ContentType_takeInHand_64 (by decide) (fun _ => ?_) (fun z => absurd (by decide) z)
      exact ev_as [(0, .ref (X + 40))] ⟨rfl, trivial⟩ (fin h σ S O)
  | succ d ih =>
    intro j h σ hj S O
    refine ev_iload_n d_ContentType_takeInHand_56 rfl rfl ?_
    refine ev_if_eq (tgt := 98) d_ContentType_takeInHand_57 (by decide) (fun c_57 => ?_) (fun c_57 => ?_)
    · exact ev_as [(0, .ref (X + 40))] ⟨rfl, trivial⟩ (fin h σ S O)
    · refine ev_iload d_ContentType_takeInHand_60 rfl ?_
      refine ev_bipush (v := 9) d_ContentType_takeInHand_62 (by decide) ?_
      refine ev_icmp_gt (tgt := 98) d_ContentType_takeInHand_64 (by decide) (fun c_64 => ?_) (fun c_64 => ?_)
      · exact ev_as [(0, .ref (X + 40))] ⟨rfl, trivial⟩ (fin h σ S O)
      · refine ev_aload_n d_ContentType_takeInHand_67 rfl rfl ?_
        refine ev_aload_n d_ContentType_takeInHand_68 rfl rfl ?_
        refine ev_iload d_ContentType_takeInHand_69 rfl ?_
        refine ev_Vr (ci := 8) [.ref (X + ρ), .int (nI j)] [] ca_ContentType_takeInHand_96 d_ContentType_takeInHand_71 rfl (O.1) rfl (Nat.le_of_ble_eq_true rfl) (w_firstOf hNm hT S O hρ (nI j)) (fun v h1 z => ?_)
        obtain ⟨⟨q, rfl⟩, z⟩ := z
        obtain rfl := z.symm
        refine ev_istore d_ContentType_takeInHand_74 (by decide) ?_
        refine ev_iload d_ContentType_takeInHand_76 rfl ?_
        refine ev_iconst (v := (-1)) d_ContentType_takeInHand_78 (by decide) ?_
        refine ev_icmp_ne (tgt := 85) d_ContentType_takeInHand_79 (by decide) (fun c_79 => ?_) (fun c_79 => ?_)
        · refine ev_aload_n d_ContentType_takeInHand_85 rfl rfl ?_
          refine ev_iload d_ContentType_takeInHand_86 rfl ?_
          refine ev_iconst (v := 0) d_ContentType_takeInHand_88 (by decide) ?_
          refine ev_Vn (ci := 8) [.int q, .int 0] [] ca_ContentType_takeInHand_103 d_ContentType_takeInHand_89 rfl (O.1) rfl (Nat.le_of_ble_eq_true rfl) (w_cputBytes hNm hT S O q 0) (fun h1 z => ?_)
          obtain ⟨σ1, S1, r1, p1, -⟩ := z
          refine ev_iinc d_ContentType_takeInHand_92 rfl (by decide) ?_
          refine ev_goto (tgt := 56) d_ContentType_takeInHand_95 (by decide) ?_
          refine ev_as [(0, .ref (X + 40)), (1, .ref (X + ρ)), (2, .int f), (3, .int ip), (4, .int (nI (j + 1)))] ⟨rfl, rfl, rfl, rfl, ?_, trivial⟩ (ev_to (ih (j + 1) h1 σ1 (by omega) S1 (cO_go S r1 O)) ?_)
          · show some (Value.int (nI j + Int32.ofInt 1)) = _
            rw [show nI j + Int32.ofInt 1 = nI (j + 1) from nI_1 j]
          · rintro o h' ⟨x, rfl, q1, q2⟩
            exact ⟨x, rfl, q1, tW_tr r1 p1 q2⟩
        · refine ev_goto (tgt := 98) d_ContentType_takeInHand_82 (by decide) ?_
          exact ev_as [(0, .ref (X + 40))] ⟨rfl, trivial⟩ (fin _ σ S O)
theorem w_takeInHand (hNm : gl_nm G) (hT : (gl_t G)[0]? = some (cI, .int)) {h : hp_T} {σ : rwT} (S : tS cI X h σ) (O : cO X h) {ρ : Nat} (hρ : ρ ∈ rws) : ct_E G m_ContentType_takeInHand [.ref (X + 40), .ref (X + ρ)] h (rW cI X h σ hnR) := by
  have m60 : (60 : Nat) ∈ txs := by decide
  refine ct_of (ws' := tb_all) rfl rfl (Nat.le_of_ble_eq_true rfl) ?_
  refine ev_aload_n d_ContentType_takeInHand_0 rfl rfl ?_
  refine ev_get (fa_ContentType_38 rfl rfl) d_ContentType_takeInHand_1 O.1 rfl ?_
  refine ev_Vn (ci := 3) [] [] ca_ContentType_takeInHand_41 d_ContentType_takeInHand_4 rfl ((S.2 60 m60)) rfl (Nat.le_of_ble_eq_true rfl) (w_clear S m60) (fun h1 z => ?_)
  obtain ⟨σ1, S1, r1, p1, -⟩ := z
  have q1 := subL p1 (l := hnR) (by decide)
  have O1 := cO_go S r1 O
  refine ev_aload_n d_ContentType_takeInHand_7 rfl rfl ?_
  refine ev_aload_n d_ContentType_takeInHand_8 rfl rfl ?_
  refine ev_iconst (v := (-1)) d_ContentType_takeInHand_9 (by decide) ?_
  refine ev_Vr (ci := 8) [.ref (X + ρ), .int (-1)] [] ca_ContentType_takeInHand_96 d_ContentType_takeInHand_10 rfl (O1.1) rfl (Nat.le_of_ble_eq_true rfl) (w_firstOf hNm hT S1 O1 hρ (-1)) (fun v h1 z => ?_)
  obtain ⟨⟨f0, rfl⟩, z⟩ := z
  obtain rfl := z.symm
  have a36 : ∀ f ip : Int32, ev_E G m_ContentType_takeInHand 36 [(0, .ref (X + 40)), (1, .ref (X + ρ)), (2, .int f), (3, .int ip)] [] h1 (rW cI X h σ hnR) := by
    intro f ip
    refine ev_iload_n d_ContentType_takeInHand_36 rfl rfl ?_
    refine ev_iconst (v := (-1)) d_ContentType_takeInHand_37 (by decide) ?_
    refine ev_icmp_ne (tgt := 43) d_ContentType_takeInHand_38 (by decide) (fun c_38 => ?_) (fun c_38 => ?_)
    · refine ev_aload_n d_ContentType_takeInHand_43 rfl rfl ?_
      refine ev_iload_n d_ContentType_takeInHand_44 rfl rfl ?_
      refine ev_aload_n d_ContentType_takeInHand_45 rfl rfl ?_
      refine ev_iload_n d_ContentType_takeInHand_46 rfl rfl ?_
      refine ev_Vr (ci := 8) [.int f] [.int f, .ref (X + 40)] ca_ContentType_takeInHand_100 d_ContentType_takeInHand_47 rfl (O1.1) rfl (Nat.le_of_ble_eq_true rfl) (w_putCharset hNm hT S1 O1 f) (fun v h1 z => ?_)
      obtain ⟨⟨c, rfl⟩, σ2, S2, r2, p2, -⟩ := z
      have O2 := cO_go S1 r2 O1
      refine ev_Vn (ci := 8) [.int f, .int c] [] ca_ContentType_takeInHand_103 d_ContentType_takeInHand_50 rfl (O2.1) rfl (Nat.le_of_ble_eq_true rfl) (w_cputBytes hNm hT S2 O2 f c) (fun h1 z => ?_)
      obtain ⟨σ3, S3, r3, p3, -⟩ := z
      have O3 := cO_go S2 r3 O2
      refine ev_iconst (v := 1) d_ContentType_takeInHand_53 (by decide) ?_
      refine ev_istore d_ContentType_takeInHand_54 (by decide) ?_
      refine ev_as [(0, .ref (X + 40)), (1, .ref (X + ρ)), (2, .int f), (3, .int ip), (4, .int (nI 1))] ⟨rfl, rfl, rfl, rfl, rfl, trivial⟩ (ev_to (l_takeInHand hNm hT hρ 9 1 _ σ3 (by omega) S3 O3) ?_)
      rintro o h' ⟨x, rfl, g1, g2⟩
      exact ⟨x, rfl, g1, tW_tr (rwR_tr r1 (rwR_tr r2 r3)) (fun τ hτ => (p3 τ hτ).trans ((p2 τ hτ).trans (q1 τ hτ))) g2⟩
    · refine ev_iconst (v := (-1)) d_ContentType_takeInHand_41 (by decide) ?_
      refine ev_iret d_ContentType_takeInHand_42 rfl ?_
      exact ⟨_, rfl, ⟨_, rfl⟩, tW_tr r1 q1 (tW_rf S1)⟩
  have a24 : ∀ ip : Int32, ev_E G m_ContentType_takeInHand 24 [(0, .ref (X + 40)), (1, .ref (X + ρ)), (2, .int f0)] [.int ip] h1 (rW cI X h σ hnR) := by
    intro ip
    refine ev_istore_n d_ContentType_takeInHand_24 rfl (by decide) ?_
    refine ev_iload_n d_ContentType_takeInHand_25 rfl rfl ?_
    refine ev_if_eq (tgt := 36) d_ContentType_takeInHand_26 (by decide) (fun c_26 => ?_) (fun c_26 => ?_)
    · exact a36 f0 ip
    · refine ev_aload_n d_ContentType_takeInHand_29 rfl rfl ?_
      refine ev_aload_n d_ContentType_takeInHand_30 rfl rfl ?_
      refine ev_iconst (v := 0) d_ContentType_takeInHand_31 (by decide) ?_
      refine ev_Vr (ci := 8) [.ref (X + ρ), .int 0] [] ca_ContentType_takeInHand_96 d_ContentType_takeInHand_32 rfl (O1.1) rfl (Nat.le_of_ble_eq_true rfl) (w_firstOf hNm hT S1 O1 hρ 0) (fun v h1 z => ?_)
      obtain ⟨⟨f1, rfl⟩, z⟩ := z
      obtain rfl := z.symm
      refine ev_istore_n d_ContentType_takeInHand_35 rfl (by decide) ?_
      exact ev_as [(0, .ref (X + 40)), (1, .ref (X + ρ)), (2, .int f1), (3, .int ip)] ⟨rfl, rfl, rfl, rfl, trivial⟩ (a36 f1 ip)
  refine ev_istore_n d_ContentType_takeInHand_13 rfl (by decide) ?_
  refine ev_iload_n d_ContentType_takeInHand_14 rfl rfl ?_
  refine ev_iconst (v := (-1)) d_ContentType_takeInHand_15 (by decide) ?_
  refine ev_icmp_ne (tgt := 23) d_ContentType_takeInHand_16 (by decide) (fun c_16 => ?_) (fun c_16 => ?_)
  · refine ev_iconst (v := 0) d_ContentType_takeInHand_23 (by decide) ?_
    exact a24 0
  · refine ev_iconst (v := 1) d_ContentType_takeInHand_19 (by decide) ?_
    refine ev_goto (tgt := 24) d_ContentType_takeInHand_20 (by decide) ?_
    exact a24 1
end TYP4
