/-! constant Strings below, their length, chars and places -/
def gCS (G : gl_G) : Prop := ∀ U : State, gl_L G U → va_Z "java/lang/String" "COMPACT_STRINGS" "Z" (.int 1) (gl_A G) U U.heap
def gFm (G : gl_G) : Prop := ∃ v : Value, (v = .null ∨ ∃ t : Nat, v = .ref t) ∧ ∀ U : State, gl_L G U → va_Z "jdk/internal/util/Preconditions" "SIOOBE_FORMATTER" "Ljava/util/function/BiFunction;" v (gl_A G) U U.heap
def gSt (G : gl_G) (str arr : Nat) (cs : List Int32) : Prop := (∀ U : State, gl_L G U → va_O "java/lang/String" str (gl_A G) U U.heap) ∧ (∀ U : State, gl_L G U → va_OF "java/lang/String" "coder" "B" (.int 0) str (gl_A G) U U.heap) ∧ (∀ U : State, gl_L G U → va_OF "java/lang/String" "value" "[B" (.ref arr) str (gl_A G) U U.heap) ∧ ∀ U : State, gl_L G U → va_T .byte arr cs.length (fun j => .int (cs.getD j 0)) (gl_A G) U U.heap
/-- the first place of c in what is left of a text, from place k on -/
def ixF (c : Int32) : List Int32 → Nat → Int32
  | [], _ => -1
  | b :: l, k => if b = c then nI k else ixF c l (k + 1)
def ixO (cs : List Int32) (c : Int32) : Int32 := if c < 0 then -1 else if 255 < c then -1 else ixF c.toInt8.toInt32 cs 0
section STR
variable {G : gl_G} {μ : mt_M} {pc : Nat} {lv : List (Nat × Value)} {h : hp_T} {Z : Option Value → hp_T → Prop} {str arr : Nat} {cs : List Int32}
theorem ev_nret {v : Int32} {ty : FieldType} (hd : decode (mt_b μ) pc = .ok (.ireturn, 1)) (hr : mt_r μ = some ty) (hn : narrow ty (.int v) = .int v) (hz : Z (some (.int v)) h) : ev_E G μ pc lv [.int v] h Z := by
  refine ⟨_, h, hz, Nat.le_refl _, Nat.le_refl _, fun p e R s m args below meth c C H locs cells slots ls hO hS hl hc hq => ?_⟩
  refine W.widen (k := R.cells) (n := R.slots) (by omega) (by omega) ?_
  exact W.zret C.1 C.2.1 (C.2.2.2.1.trans hr) hn (fun t ht _ => ⟨rfl, by rw [ht]; exact hO, hS.F ht⟩) hS.2.2 hd C.2.2.2.2.2.2.1
theorem s_isLatin1 (hC : gCS G) (hs : gSt G str arr cs) : ct_E G m_String_isLatin1 [.ref str] h (cv (.int 1) h) := by
  refine ct_of (ws' := tb_all) rfl rfl (Nat.le_of_ble_eq_true rfl) ?_
  refine ev_gets hC (List.mem_cons_of_mem _ (tb_in 711 (by decide +kernel) rfl)) d_String_isLatin1_0 ?_
  refine ev_if_eq (tgt := 17) d_String_isLatin1_3 (by decide) (fun z => absurd z (by decide)) (fun _ => ?_)
  refine ev_aload_n d_String_isLatin1_6 rfl rfl ?_
  refine ev_getb hs.2.1 (List.mem_cons_of_mem _ (tb_in 1465 (by decide +kernel) rfl)) d_String_isLatin1_7 ?_
  refine ev_if_ne (tgt := 17) d_String_isLatin1_10 (by decide) (fun z => absurd rfl z) (fun _ => ?_)
  refine ev_iconst (v := 1) d_String_isLatin1_13 (by decide) ?_
  refine ev_goto (tgt := 18) d_String_isLatin1_14 (by decide) ?_
  refine ev_zret d_String_isLatin1_18 rfl rfl ?_
  exact ⟨rfl, rfl⟩
theorem s_coder (hC : gCS G) (hs : gSt G str arr cs) : ct_E G m_String_coder [.ref str] h (cv (.int 0) h) := by
  refine ct_of (ws' := tb_all) rfl rfl (Nat.le_of_ble_eq_true rfl) ?_
  refine ev_gets hC (List.mem_cons_of_mem _ (tb_in 711 (by decide +kernel) rfl)) d_String_coder_0 ?_
  refine ev_if_eq (tgt := 13) d_String_coder_3 (by decide) (fun z => absurd z (by decide)) (fun _ => ?_)
  refine ev_aload_n d_String_coder_6 rfl rfl ?_
  refine ev_getb hs.2.1 (List.mem_cons_of_mem _ (tb_in 1465 (by decide +kernel) rfl)) d_String_coder_7 ?_
  refine ev_goto (tgt := 14) d_String_coder_10 (by decide) ?_
  refine ev_nret d_String_coder_14 rfl rfl ?_
  exact ⟨rfl, rfl⟩
theorem s_length (hC : gCS G) (hs : gSt G str arr cs) (hn : cs.length < 2 ^ 30) : ct_E G m_String_length [.ref str] h (cv (.int (nI cs.length)) h) := by
  refine ct_of (ws' := tb_all) rfl rfl (Nat.le_of_ble_eq_true rfl) ?_
  refine ev_aload_n d_String_length_0 rfl rfl ?_
  refine ev_getb hs.2.2.1 (List.mem_cons_of_mem _ (tb_in 1466 (by decide +kernel) rfl)) d_String_length_1 ?_
  refine ev_blen hs.2.2.2 d_String_length_4 ?_
  refine ev_aload_n d_String_length_5 rfl rfl ?_
  refine ev_Bv [] [.int (nI cs.length)] ca_String_length_335 d_String_length_6 (hs.1) rfl (Nat.le_of_ble_eq_true rfl) (s_coder hC hs) ?_
  refine ev_ishr d_String_length_9 ?_
  rw [sc_shr0 (by omega)]
  refine ev_iret d_String_length_10 rfl ?_
  exact ⟨rfl, rfl⟩
theorem s_canEncode (c : Int32) : ct_E G m_StringLatin1_canEncode [.int c] h (cv (.int (if c < 0 then 0 else if 255 < c then 0 else 1)) h) := by
  refine ct_of (ws' := tb_all) rfl rfl (Nat.le_of_ble_eq_true rfl) ?_
  refine ev_iload_n d_StringLatin1_canEncode_0 rfl rfl ?_
  refine ev_if_lt (tgt := 15) d_StringLatin1_canEncode_1 (by decide) (fun c_1 => ?_) (fun c_1 => ?_)
  · rw [if_pos c_1]
    refine ev_iconst (v := 0) d_StringLatin1_canEncode_15 (by decide) ?_
    refine ev_zret d_StringLatin1_canEncode_16 rfl rfl ?_
    exact ⟨rfl, rfl⟩
  · rw [if_neg c_1]
    refine ev_iload_n d_StringLatin1_canEncode_4 rfl rfl ?_
    refine ev_sipush (v := 255) d_StringLatin1_canEncode_5 (by decide) ?_
    refine ev_icmp_gt (tgt := 15) d_StringLatin1_canEncode_8 (by decide) (fun c_8 => ?_) (fun c_8 => ?_)
    · rw [if_pos c_8]
      refine ev_iconst (v := 0) d_StringLatin1_canEncode_15 (by decide) ?_
      refine ev_zret d_StringLatin1_canEncode_16 rfl rfl ?_
      exact ⟨rfl, rfl⟩
    · rw [if_neg c_8]
      refine ev_iconst (v := 1) d_StringLatin1_canEncode_11 (by decide) ?_
      refine ev_goto (tgt := 16) d_StringLatin1_canEncode_12 (by decide) ?_
      refine ev_zret d_StringLatin1_canEncode_16 rfl rfl ?_
      exact ⟨rfl, rfl⟩
theorem l_indexOfChar (hs : gSt G str arr cs) (hn : cs.length < 2 ^ 30) {c x1 x2 : Int32} : ∀ (l : List Int32) (k : Nat), cs.drop k = l → k + l.length = cs.length → ev_E G m_StringLatin1_indexOfChar 7 [(0, .ref arr), (1, .int x1), (2, .int x2), (3, .int (nI cs.length)), (4, .int c), (5, .int (nI k))] [] h (cv (.int (ixF c l k)) h) := by
  intro l
  induction l with
  | nil =>
    intro k e hk
    simp only [List.length_nil] at hk
    refine ev_iload d_StringLatin1_indexOfChar_7 rfl ?_
    refine ev_iload_n d_StringLatin1_indexOfChar_9 rfl rfl ?_
    refine ev_icmp_ge (tgt := 31) d_StringLatin1_indexOfChar_10 (by decide) (fun _ => ?_) (fun z => absurd (nI_le (by omega) (by omega)) z)
    refine ev_iconst (v := (-1)) d_StringLatin1_indexOfChar_31 (by decide) ?_
    refine ev_iret d_StringLatin1_indexOfChar_32 rfl ?_
    exact ⟨rfl, rfl⟩
  | cons b l ih =>
    intro k e hk
    simp only [List.length_cons] at hk
    obtain ⟨h1, h2, h3, -⟩ := sc_dropC e
    refine ev_iload d_StringLatin1_indexOfChar_7 rfl ?_
    refine ev_iload_n d_StringLatin1_indexOfChar_9 rfl rfl ?_
    refine ev_icmp_ge (tgt := 31) d_StringLatin1_indexOfChar_10 (by decide) (fun z => absurd z (nI_ge (by omega) (by omega))) (fun _ => ?_)
    refine ev_aload_n d_StringLatin1_indexOfChar_13 rfl rfl ?_
    refine ev_iload d_StringLatin1_indexOfChar_14 rfl ?_
    refine ev_bbald hs.2.2.2 (nI_in h1 (by omega)) d_StringLatin1_indexOfChar_16 ?_
    rw [nI_clamp (by omega), h2]
    refine ev_iload d_StringLatin1_indexOfChar_17 rfl ?_
    refine ev_icmp_ne (tgt := 25) d_StringLatin1_indexOfChar_19 (by decide) (fun c_19 => ?_) (fun c_19 => ?_)
    · rw [ixF, if_neg c_19]
      refine ev_iinc d_StringLatin1_indexOfChar_25 rfl (by decide) ?_
      refine ev_goto (tgt := 7) d_StringLatin1_indexOfChar_28 (by decide) ?_
      rw [show nI k + Int32.ofInt 1 = nI (k + 1) from nI_1 k]
      exact ih (k + 1) h3 (by omega)
    · have e2 : b = c := by
        by_cases q : b = c
        · exact q
        · first | exact absurd q c_19 | exact c_19
      rw [ixF, if_pos e2]
      refine ev_iload d_StringLatin1_indexOfChar_22 rfl ?_
      refine ev_iret d_StringLatin1_indexOfChar_24 rfl ?_
      exact ⟨rfl, rfl⟩
theorem s_indexOfChar (hs : gSt G str arr cs) (hn : cs.length < 2 ^ 30) (c : Int32) : ct_E G m_StringLatin1_indexOfChar [.ref arr, .int c, .int 0, .int (nI cs.length)] h (cv (.int (ixF c.toInt8.toInt32 cs 0)) h) := by
  refine ct_of (ws' := tb_all) rfl rfl (Nat.le_of_ble_eq_true rfl) ?_
  refine ev_iload_n d_StringLatin1_indexOfChar_0 rfl rfl ?_
  refine ev_i2b d_StringLatin1_indexOfChar_1 ?_
  refine ev_istore d_StringLatin1_indexOfChar_2 (by decide) ?_
  refine ev_iload_n d_StringLatin1_indexOfChar_4 rfl rfl ?_
  refine ev_istore d_StringLatin1_indexOfChar_5 (by decide) ?_
  exact ev_as [(0, .ref arr), (1, .int c), (2, .int 0), (3, .int (nI cs.length)), (4, .int c.toInt8.toInt32), (5, .int (nI 0))] ⟨rfl, rfl, rfl, rfl, rfl, rfl, trivial⟩ (l_indexOfChar hs hn cs 0 rfl (by omega))
theorem s_indexOf3 (hs : gSt G str arr cs) (hn : cs.length < 2 ^ 30) (h0 : 0 < cs.length) (c : Int32) : ct_E G m_StringLatin1_indexOf [.ref arr, .int c, .int 0, .int (nI cs.length)] h (cv (.int (ixO cs c)) h) := by
  refine ct_of (ws' := tb_all) rfl rfl (Nat.le_of_ble_eq_true rfl) ?_
  unfold ixO
  refine ev_iload_n d_StringLatin1_indexOf_0 rfl rfl ?_
  refine ev_Sv [.int c] [] ca_StringLatin1_indexOf_88 d_StringLatin1_indexOf_1 rfl (Nat.le_of_ble_eq_true rfl) (s_canEncode c) ?_
  by_cases h1 : c < 0
  · rw [if_pos h1, if_pos h1]
    refine ev_if_ne (tgt := 9) d_StringLatin1_indexOf_4 (by decide) (fun z => absurd rfl z) (fun _ => ?_)
    refine ev_iconst (v := (-1)) d_StringLatin1_indexOf_7 (by decide) ?_
    refine ev_iret d_StringLatin1_indexOf_8 rfl ?_
    exact ⟨rfl, rfl⟩
  · rw [if_neg h1, if_neg h1]
    by_cases h2 : 255 < c
    · rw [if_pos h2, if_pos h2]
      refine ev_if_ne (tgt := 9) d_StringLatin1_indexOf_4 (by decide) (fun z => absurd rfl z) (fun _ => ?_)
      refine ev_iconst (v := (-1)) d_StringLatin1_indexOf_7 (by decide) ?_
      refine ev_iret d_StringLatin1_indexOf_8 rfl ?_
      exact ⟨rfl, rfl⟩
    · rw [if_neg h2, if_neg h2]
      refine ev_if_ne (tgt := 9) d_StringLatin1_indexOf_4 (by decide) (fun _ => ?_) (fun z => absurd z (by decide))
      refine ev_iload_n d_StringLatin1_indexOf_9 rfl rfl ?_
      refine ev_iconst (v := 0) d_StringLatin1_indexOf_10 (by decide) ?_
      refine ev_mmax (List.mem_cons_of_mem _ tw_635) (List.mem_cons_of_mem _ tw_636) (List.mem_cons_of_mem _ tw_6) (List.mem_cons_of_mem _ tw_637) (by decide) (Nat.le_of_ble_eq_true rfl) d_StringLatin1_indexOf_11 ?_
      rw [ite_self]
      refine ev_istore_n d_StringLatin1_indexOf_14 rfl (by decide) ?_
      refine ev_iload_n d_StringLatin1_indexOf_15 rfl rfl ?_
      refine ev_aload_n d_StringLatin1_indexOf_16 rfl rfl ?_
      refine ev_blen hs.2.2.2 d_StringLatin1_indexOf_17 ?_
      refine ev_mmin (List.mem_cons_of_mem _ tw_638) (List.mem_cons_of_mem _ tw_74) (List.mem_cons_of_mem _ tw_6) (List.mem_cons_of_mem _ tw_75) (by decide) (Nat.le_of_ble_eq_true rfl) d_StringLatin1_indexOf_18 ?_
      rw [ite_self]
      refine ev_istore_n d_StringLatin1_indexOf_21 rfl (by decide) ?_
      refine ev_iload_n d_StringLatin1_indexOf_22 rfl rfl ?_
      refine ev_iload_n d_StringLatin1_indexOf_23 rfl rfl ?_
      refine ev_icmp_lt (tgt := 29) d_StringLatin1_indexOf_24 (by decide) (fun _ => ?_) (fun z => absurd (show nI 0 < nI cs.length from nI_lt h0 (by omega)) z)
      refine ev_aload_n d_StringLatin1_indexOf_29 rfl rfl ?_
      refine ev_iload_n d_StringLatin1_indexOf_30 rfl rfl ?_
      refine ev_iload_n d_StringLatin1_indexOf_31 rfl rfl ?_
      refine ev_iload_n d_StringLatin1_indexOf_32 rfl rfl ?_
      refine ev_Sv [.ref arr, .int c, .int 0, .int (nI cs.length)] [] ca_StringLatin1_indexOf_95 d_StringLatin1_indexOf_33 rfl (Nat.le_of_ble_eq_true rfl) (s_indexOfChar hs hn c) ?_
      refine ev_iret d_StringLatin1_indexOf_36 rfl ?_
      exact ⟨rfl, rfl⟩
theorem s_indexOf2 (hC : gCS G) (hs : gSt G str arr cs) (hn : cs.length < 2 ^ 30) (h0 : 0 < cs.length) (c : Int32) : ct_E G m_String_indexOf2 [.ref str, .int c, .int 0] h (cv (.int (ixO cs c)) h) := by
  refine ct_of (ws' := tb_all) rfl rfl (Nat.le_of_ble_eq_true rfl) ?_
  refine ev_aload_n d_String_indexOf2_0 rfl rfl ?_
  refine ev_Bv [] [] ca_String_indexOf2_492 d_String_indexOf2_1 (hs.1) rfl (Nat.le_of_ble_eq_true rfl) (s_isLatin1 hC hs) ?_
  refine ev_if_eq (tgt := 23) d_String_indexOf2_4 (by decide) (fun z => absurd z (by decide)) (fun _ => ?_)
  refine ev_aload_n d_String_indexOf2_7 rfl rfl ?_
  refine ev_getb hs.2.2.1 (List.mem_cons_of_mem _ (tb_in 1466 (by decide +kernel) rfl)) d_String_indexOf2_8 ?_
  refine ev_iload_n d_String_indexOf2_11 rfl rfl ?_
  refine ev_iload_n d_String_indexOf2_12 rfl rfl ?_
  refine ev_aload_n d_String_indexOf2_13 rfl rfl ?_
  refine ev_Bv [] [.int 0, .int c, .ref arr] ca_String_indexOf2_505 d_String_indexOf2_14 (hs.1) rfl (Nat.le_of_ble_eq_true rfl) (s_length hC hs hn) ?_
  refine ev_Sv [.ref arr, .int c, .int 0, .int (nI cs.length)] [] ca_String_indexOf2_637 d_String_indexOf2_17 rfl (Nat.le_of_ble_eq_true rfl) (s_indexOf3 hs hn h0 c) ?_
  refine ev_goto (tgt := 36) d_String_indexOf2_20 (by decide) ?_
  refine ev_iret d_String_indexOf2_36 rfl ?_
  exact ⟨rfl, rfl⟩
theorem s_indexOf (hC : gCS G) (hs : gSt G str arr cs) (hn : cs.length < 2 ^ 30) (h0 : 0 < cs.length) (c : Int32) : ct_E G m_String_indexOf [.ref str, .int c] h (cv (.int (ixO cs c)) h) := by
  refine ct_of (ws' := tb_all) rfl rfl (Nat.le_of_ble_eq_true rfl) ?_
  refine ev_aload_n d_String_indexOf_0 rfl rfl ?_
  refine ev_iload_n d_String_indexOf_1 rfl rfl ?_
  refine ev_iconst (v := 0) d_String_indexOf_2 (by decide) ?_
  refine ev_Bv [.int c, .int 0] [] ca_String_indexOf_633 d_String_indexOf_3 (hs.1) rfl (Nat.le_of_ble_eq_true rfl) (s_indexOf2 hC hs hn h0 c) ?_
  refine ev_iret d_String_indexOf_6 rfl ?_
  exact ⟨rfl, rfl⟩
theorem s_pcheck {v : Value} (hv : v = .null ∨ ∃ t : Nat, v = .ref t) {k n : Nat} (hk : k < n) (hn : n < 2 ^ 31) : ct_E G m_Preconditions_checkIndex [.int (nI k), .int (nI n), v] h (cv (.int (nI k)) h) := by
  have key : ev_E G m_Preconditions_checkIndex 0 [(0, .int (nI k)), (1, .int (nI n))] [] h (cv (.int (nI k)) h) := by
    refine ev_iload_n d_Preconditions_checkIndex_0 rfl rfl ?_
    refine ev_if_lt (tgt := 9) d_Preconditions_checkIndex_1 (by decide) (fun z => absurd z (nI_pos (by omega))) (fun _ => ?_)
    refine ev_iload_n d_Preconditions_checkIndex_4 rfl rfl ?_
    refine ev_iload_n d_Preconditions_checkIndex_5 rfl rfl ?_
    refine ev_icmp_lt (tgt := 16) d_Preconditions_checkIndex_6 (by decide) (fun _ => ?_) (fun z => absurd (nI_lt hk hn) z)
    refine ev_iload_n d_Preconditions_checkIndex_16 rfl rfl ?_
    refine ev_iret d_Preconditions_checkIndex_17 rfl ?_
    exact ⟨rfl, rfl⟩
  rcases hv with rfl | ⟨t, rfl⟩
  · refine ct_of (ws' := tb_all) rfl rfl (Nat.le_of_ble_eq_true rfl) ?_
    exact ev_as [(0, .int (nI k)), (1, .int (nI n))] ⟨rfl, rfl, trivial⟩ key
  · refine ct_of (ws' := tb_all) rfl rfl (Nat.le_of_ble_eq_true rfl) ?_
    exact ev_as [(0, .int (nI k)), (1, .int (nI n))] ⟨rfl, rfl, trivial⟩ key
theorem s_check (hF : gFm G) {k n : Nat} (hk : k < n) (hn : n < 2 ^ 31) : ct_E G m_String_checkIndex [.int (nI k), .int (nI n)] h (cn (fun h' => h' = h)) := by
  obtain ⟨v, hv, hz⟩ := hF
  refine ct_of (ws' := tb_all) rfl rfl (Nat.le_of_ble_eq_true rfl) ?_
  refine ev_iload_n d_String_checkIndex_0 rfl rfl ?_
  refine ev_iload_n d_String_checkIndex_1 rfl rfl ?_
  refine ev_gets hz (List.mem_cons_of_mem _ (tb_in 752 (by decide +kernel) rfl)) d_String_checkIndex_2 ?_
  refine ev_Sv [.int (nI k), .int (nI n), v] [] ca_String_checkIndex_1059 d_String_checkIndex_5 rfl (Nat.le_of_ble_eq_true rfl) (s_pcheck hv hk hn) ?_
  refine ev_pop d_String_checkIndex_8 rfl ?_
  refine ev_vret d_String_checkIndex_9 rfl ?_
  exact ⟨rfl, rfl⟩
theorem s_charAt1 (hF : gFm G) (hs : gSt G str arr cs) (hn : cs.length < 2 ^ 30) {k : Nat} (hk : k < cs.length) : ct_E G m_StringLatin1_charAt [.ref arr, .int (nI k)] h (cv (.int (cs.getD k 0 &&& 255)) h) := by
  refine ct_of (ws' := tb_all) rfl rfl (Nat.le_of_ble_eq_true rfl) ?_
  refine ev_iload_n d_StringLatin1_charAt_0 rfl rfl ?_
  refine ev_aload_n d_StringLatin1_charAt_1 rfl rfl ?_
  refine ev_blen hs.2.2.2 d_StringLatin1_charAt_2 ?_
  refine ev_Sn [.int (nI k), .int (nI cs.length)] [] ca_StringLatin1_charAt_9 d_StringLatin1_charAt_3 rfl (Nat.le_of_ble_eq_true rfl) (s_check hF hk (by omega)) (fun h1 z => ?_)
  obtain rfl := z.symm
  refine ev_aload_n d_StringLatin1_charAt_6 rfl rfl ?_
  refine ev_iload_n d_StringLatin1_charAt_7 rfl rfl ?_
  refine ev_bbald hs.2.2.2 (nI_in hk (by omega)) d_StringLatin1_charAt_8 ?_
  rw [nI_clamp (by omega)]
  refine ev_sipush (v := 255) d_StringLatin1_charAt_9 (by decide) ?_
  refine ev_iand d_StringLatin1_charAt_12 ?_
  refine ev_i2c d_StringLatin1_charAt_13 ?_
  rw [sc_c2]
  refine ev_nret d_StringLatin1_charAt_14 rfl (sc_nar _) ?_
  exact ⟨rfl, rfl⟩
theorem s_charAt (hC : gCS G) (hF : gFm G) (hs : gSt G str arr cs) (hn : cs.length < 2 ^ 30) {k : Nat} (hk : k < cs.length) : ct_E G m_String_charAt [.ref str, .int (nI k)] h (cv (.int (cs.getD k 0 &&& 255)) h) := by
  refine ct_of (ws' := tb_all) rfl rfl (Nat.le_of_ble_eq_true rfl) ?_
  refine ev_aload_n d_String_charAt_0 rfl rfl ?_
  refine ev_Bv [] [] ca_String_charAt_492 d_String_charAt_1 (hs.1) rfl (Nat.le_of_ble_eq_true rfl) (s_isLatin1 hC hs) ?_
  refine ev_if_eq (tgt := 16) d_String_charAt_4 (by decide) (fun z => absurd z (by decide)) (fun _ => ?_)
  refine ev_aload_n d_String_charAt_7 rfl rfl ?_
  refine ev_getb hs.2.2.1 (List.mem_cons_of_mem _ (tb_in 1466 (by decide +kernel) rfl)) d_String_charAt_8 ?_
  refine ev_iload_n d_String_charAt_11 rfl rfl ?_
  refine ev_Sv [.ref arr, .int (nI k)] [] ca_String_charAt_495 d_String_charAt_12 rfl (Nat.le_of_ble_eq_true rfl) (s_charAt1 hF hs hn hk) ?_
  refine ev_nret d_String_charAt_15 rfl (sc_nar _) ?_
  exact ⟨rfl, rfl⟩
end STR
