/-! the class: date, weak -/
abbrev dtO (X : Nat) (p : Int32) : Nat × List Value := (7, [.ref (X + 10), .int p])
/-- a text: it is a String; its length; its chars -/
def gSl (G : gl_G) (str : Nat) (cs : List Int32) : Prop := (∀ U : State, gl_L G U → va_O "java/lang/String" str (gl_A G) U U.heap) ∧ (∀ h : hp_T, ct_E G m_String_length [.ref str] h (cv (.int (nI cs.length)) h)) ∧ ∀ (h : hp_T) (k : Nat), k < cs.length → ct_E G m_String_charAt [.ref str, .int (nI k)] h (cv (.int (cs.getD k 0)) h)
/-- a table below -/
def gTb (G : gl_G) (nm : String) (t : Nat) (l : List Int32) : Prop := (∀ U : State, gl_L G U → va_Z "MailHeads$DateReader" nm "[I" (.ref t) (gl_A G) U U.heap) ∧ ∀ U : State, gl_L G U → va_T .int t l.length (fun j => .int (l.getD j 0)) (gl_A G) U U.heap
def mdL : List Int32 := [31, 28, 31, 30, 31, 30, 31, 31, 30, 31, 30, 31]
def zhL : List Int32 := [-5, -4, -6, -5, -7, -6, -8, -7]
def moL : List Int32 := [106, 97, 110, 102, 101, 98, 109, 97, 114, 97, 112, 114, 109, 97, 121, 106, 117, 110, 106, 117, 108, 97, 117, 103, 115, 101, 112, 111, 99, 116, 110, 111, 118, 100, 101, 99]
def znL : List Int32 := [101, 115, 116, 101, 100, 116, 99, 115, 116, 99, 100, 116, 109, 115, 116, 109, 100, 116, 112, 115, 116, 112, 100, 116]
def gDt (G : gl_G) (tm tz sm sz : Nat) : Prop := (gTb G "MONTH_DAYS" tm mdL ∧ gTb G "ZONE_HOURS" tz zhL) ∧ ((∀ U : State, gl_L G U → vk_R "MailHeads$DateReader" 81 "janfebmaraprmayjunjulaugsepoctnovdec" sm U) ∧ gSl G sm moL) ∧ (∀ U : State, gl_L G U → vk_R "MailHeads$DateReader" 108 "estedtcstcdtmstmdtpstpdt" sz U) ∧ gSl G sz znL
def dO (X : Nat) (h : hp_T) : Prop := (∃ p : Int32, h.2.2 (X + 39) = some (.inr (dtO X p))) ∧ ∃ r : List Value, h.2.2 (X + 10) = some (.inr (4, .ref (X + 11) :: .ref (X + 16) :: r))
def dtP (X : Nat) (h h' : hp_T) : Prop := ∃ p : Int32, h' = hp_up h (X + 39) (.inr (dtO X p))
abbrev dtR (X : Nat) (h : hp_T) : Option Value → hp_T → Prop := cr (fun y h' => (∃ q : Int32, y = .int q) ∧ dtP X h h')
section DAT4
variable {G : gl_G} {cI : ClassId} {X : Nat}
theorem dtP_rf {h : hp_T} (O : dO X h) : dtP X h h := by
  obtain ⟨⟨p, h1⟩, -⟩ := O
  exact ⟨p, (hp_up_same h1).symm⟩
theorem dtP_tr {h h1 h2 : hp_T} (a : dtP X h h1) (b : dtP X h1 h2) : dtP X h h2 := by
  obtain ⟨p, rfl⟩ := a
  obtain ⟨q, rfl⟩ := b
  exact ⟨q, hp_up_up⟩
theorem dO_go {h h' : hp_T} (O : dO X h) (d : dtP X h h') : dO X h' := by
  obtain ⟨-, r, h2⟩ := O
  obtain ⟨p, rfl⟩ := d
  exact ⟨⟨p, hp_up_self _ _ _⟩, r, by rw [hp_up_ne (by omega)]; exact h2⟩
theorem dS_go {h h' : hp_T} {σ : rwT} (S : tS cI X h σ) (O : dO X h) (d : dtP X h h') : tS cI X h' σ := by
  obtain ⟨⟨q, h1⟩, -⟩ := O
  obtain ⟨p, rfl⟩ := d
  exact tS_up S h1 (by decide) (by decide)
theorem l_digits (hNm : gl_nm G) (hT : (gl_t G)[0]? = some (cI, .int)) {h : hp_T} {σ : rwT} (S : tS cI X h σ) (O : dO X h) {f t : Int32} : ∀ (d : Nat) (i n : Int32), (t.toInt - i.toInt).toNat = d → ev_E G m_DateReader_digits 5 [(0, .ref (X + 39)), (1, .int f), (2, .int t), (3, .int n), (4, .int i)] [] h (pu h) := by
  have m11 : (11 : Nat) ∈ txs := by decide
  obtain ⟨⟨p, hA⟩, r, hW⟩ := id O
  intro d
  induction d using Nat.strongRecOn with
  | ind d ih =>
    intro i n hd
    refine ev_iload d_DateReader_digits_5 rfl ?_
    refine ev_iload_n d_DateReader_digits_7 rfl rfl ?_
    refine ev_icmp_ge (tgt := 54) d_DateReader_digits_8 (by decide) (fun c_8 => ?_) (fun c_8 => ?_)
    · refine ev_iload_n d_DateReader_digits_54 rfl rfl ?_
      refine ev_iret d_DateReader_digits_55 rfl ?_
      exact ⟨_, rfl, ⟨_, rfl⟩, rfl⟩
    · have e1 := i32_s c_8
      have e2 := i32_lt c_8
      refine ev_aload_n d_DateReader_digits_11 rfl rfl ?_
      refine ev_get (fa_DateReader_11 rfl rfl) d_DateReader_digits_12 hA rfl ?_
      refine ev_Vv (ci := 4) [] [] ca_DateReader_digits_69 d_DateReader_digits_15 rfl (hW) rfl (Nat.le_of_ble_eq_true rfl) (w_wtexts hW) ?_
      refine ev_aload_n d_DateReader_digits_18 rfl rfl ?_
      refine ev_get (fa_DateReader_17 rfl rfl) d_DateReader_digits_19 hA rfl ?_
      refine ev_iload d_DateReader_digits_22 rfl ?_
      refine ev_Vv (ci := 3) [.int p, .int i] [] ca_DateReader_digits_87 d_DateReader_digits_24 rfl ((S.2 11 m11)) rfl (Nat.le_of_ble_eq_true rfl) (w_byteOf hT S m11 p i) ?_
      refine ev_Nv hNm [.int _] [] cn_DateReader_digits_90 d_DateReader_digits_27 rfl (Nat.le_of_ble_eq_true rfl) (w_digit _) ?_
      refine ev_istore d_DateReader_digits_30 (by decide) ?_
      refine ev_iload d_DateReader_digits_32 rfl ?_
      refine ev_iconst (v := (-1)) d_DateReader_digits_34 (by decide) ?_
      refine ev_icmp_ne (tgt := 40) d_DateReader_digits_35 (by decide) (fun c_35 => ?_) (fun c_35 => ?_)
      · refine ev_bipush (v := 10) d_DateReader_digits_40 (by decide) ?_
        refine ev_iload_n d_DateReader_digits_42 rfl rfl ?_
        refine ev_imul d_DateReader_digits_43 ?_
        refine ev_iload d_DateReader_digits_44 rfl ?_
        refine ev_iadd d_DateReader_digits_46 ?_
        refine ev_istore_n d_DateReader_digits_47 rfl (by decide) ?_
        refine ev_iinc d_DateReader_digits_48 rfl (by decide) ?_
        refine ev_goto (tgt := 5) d_DateReader_digits_51 (by decide) ?_
        exact ev_as [(0, .ref (X + 39)), (1, .int f), (2, .int t), (3, .int _), (4, .int (i + 1))] ⟨rfl, rfl, rfl, rfl, rfl, trivial⟩ (ih _ (by rw [e1]; omega) (i + 1) _ rfl)
      · refine ev_iconst (v := (-1)) d_DateReader_digits_38 (by decide) ?_
        refine ev_iret d_DateReader_digits_39 rfl ?_
        exact ⟨_, rfl, ⟨_, rfl⟩, rfl⟩
theorem w_digits (hNm : gl_nm G) (hT : (gl_t G)[0]? = some (cI, .int)) {h : hp_T} {σ : rwT} (S : tS cI X h σ) (O : dO X h) (f t : Int32) : ct_E G m_DateReader_digits [.ref (X + 39), .int f, .int t] h (pu h) := by
  refine ct_of (ws' := tb_all) rfl rfl (Nat.le_of_ble_eq_true rfl) ?_
  refine ev_iconst (v := 0) d_DateReader_digits_0 (by decide) ?_
  refine ev_istore_n d_DateReader_digits_1 rfl (by decide) ?_
  refine ev_iload_n d_DateReader_digits_2 rfl rfl ?_
  refine ev_istore d_DateReader_digits_3 (by decide) ?_
  exact l_digits hNm hT S O _ _ _ rfl
theorem w_isLetter (hNm : gl_nm G) (hT : (gl_t G)[0]? = some (cI, .int)) {h : hp_T} {σ : rwT} (S : tS cI X h σ) (O : dO X h) (i c : Int32) : ct_E G m_DateReader_isLetter [.ref (X + 39), .int i, .int c] h (pu h) := by
  have m11 : (11 : Nat) ∈ txs := by decide
  obtain ⟨⟨p, hA⟩, r, hW⟩ := id O
  refine ct_of (ws' := tb_all) rfl rfl (Nat.le_of_ble_eq_true rfl) ?_
  refine ev_aload_n d_DateReader_isLetter_0 rfl rfl ?_
  refine ev_get (fa_DateReader_11 rfl rfl) d_DateReader_isLetter_1 hA rfl ?_
  refine ev_Vv (ci := 4) [] [] ca_DateReader_isLetter_69 d_DateReader_isLetter_4 rfl (hW) rfl (Nat.le_of_ble_eq_true rfl) (w_wtexts hW) ?_
  refine ev_aload_n d_DateReader_isLetter_7 rfl rfl ?_
  refine ev_get (fa_DateReader_17 rfl rfl) d_DateReader_isLetter_8 hA rfl ?_
  refine ev_iload_n d_DateReader_isLetter_11 rfl rfl ?_
  refine ev_Vv (ci := 3) [.int p, .int i] [] ca_DateReader_isLetter_87 d_DateReader_isLetter_12 rfl ((S.2 11 m11)) rfl (Nat.le_of_ble_eq_true rfl) (w_byteOf hT S m11 p i) ?_
  refine ev_Nv hNm [.int _] [] cn_DateReader_isLetter_105 d_DateReader_isLetter_15 rfl (Nat.le_of_ble_eq_true rfl) (w_small _) ?_
  refine ev_iload_n d_DateReader_isLetter_18 rfl rfl ?_
  refine ev_icmp_ne (tgt := 26) d_DateReader_isLetter_19 (by decide) (fun c_19 => ?_) (fun c_19 => ?_)
  · refine ev_iconst (v := 0) d_DateReader_isLetter_26 (by decide) ?_
    refine ev_zret d_DateReader_isLetter_27 rfl rfl ?_
    exact ⟨_, rfl, ⟨_, rfl⟩, rfl⟩
  · refine ev_iconst (v := 1) d_DateReader_isLetter_22 (by decide) ?_
    refine ev_goto (tgt := 27) d_DateReader_isLetter_23 (by decide) ?_
    refine ev_zret d_DateReader_isLetter_27 rfl rfl ?_
    exact ⟨_, rfl, ⟨_, rfl⟩, rfl⟩
theorem l_threeLetters (hNm : gl_nm G) (hT : (gl_t G)[0]? = some (cI, .int)) {h : hp_T} {σ : rwT} (S : tS cI X h σ) (O : dO X h) {str : Nat} {cs : List Int32} (hs : gSl G str cs) (hc : cs.length < 2 ^ 30) : ∀ (d i : Nat), cs.length ≤ i + d → i < cs.length + 3 → ev_E G m_DateReader_threeLetters 2 [(0, .ref (X + 39)), (1, .ref str), (2, .int (nI i))] [] h (pu h) := by
  obtain ⟨⟨p, hA⟩, r, hW⟩ := id O
  intro d
  induction d with
  | zero =>
    intro i hd hi
    refine ev_iload_n d_DateReader_threeLetters_2 rfl rfl ?_
    refine ev_iconst (v := 2) d_DateReader_threeLetters_3 (by decide) ?_
    refine ev_iadd d_DateReader_threeLetters_4 ?_
    refine ev_aload_n d_DateReader_threeLetters_5 rfl rfl ?_
    rw [show nI i + 2 = nI (i + 2) from nI_add i 2]
    refine ev_Bv [] [.int (nI (i + 2))] ca_DateReader_threeLetters_93 d_DateReader_threeLetters_6 (hs.1) rfl (Nat.le_of_ble_eq_true rfl) (hs.2.1 h) ?_
    refine ev_icmp_ge (tgt := 65) d_DateReader_threeLetters_9 (by decide) (fun _ => ?_) (fun z => absurd (nI_le (by omega) (by omega)) z)
    refine ev_iconst (v := (-1)) d_DateReader_threeLetters_65 (by decide) ?_
    refine ev_iret d_DateReader_threeLetters_66 rfl ?_
    exact ⟨_, rfl, ⟨_, rfl⟩, rfl⟩
  | succ d ih =>
    intro i hd hi
    refine ev_iload_n d_DateReader_threeLetters_2 rfl rfl ?_
    refine ev_iconst (v := 2) d_DateReader_threeLetters_3 (by decide) ?_
    refine ev_iadd d_DateReader_threeLetters_4 ?_
    refine ev_aload_n d_DateReader_threeLetters_5 rfl rfl ?_
    rw [show nI i + 2 = nI (i + 2) from nI_add i 2]
    refine ev_Bv [] [.int (nI (i + 2))] ca_DateReader_threeLetters_93 d_DateReader_threeLetters_6 (hs.1) rfl (Nat.le_of_ble_eq_true rfl) (hs.2.1 h) ?_
    refine ev_icmp_ge (tgt := 65) d_DateReader_threeLetters_9 (by decide) (fun _ => ?_) (fun c9 => ?_)
    · refine ev_iconst (v := (-1)) d_DateReader_threeLetters_65 (by decide) ?_
      refine ev_iret d_DateReader_threeLetters_66 rfl ?_
      exact ⟨_, rfl, ⟨_, rfl⟩, rfl⟩
    have hlt : i + 2 < cs.length := Nat.lt_of_not_le (fun q => c9 (nI_le q (by omega)))
    have on : ev_E G m_DateReader_threeLetters 59 [(0, .ref (X + 39)), (1, .ref str), (2, .int (nI i))] [] h (pu h) := by
      refine ev_iinc d_DateReader_threeLetters_59 rfl (by decide) ?_
      refine ev_goto (tgt := 2) d_DateReader_threeLetters_62 (by decide) ?_
      rw [show nI i + Int32.ofInt 3 = nI (i + 3) from nI_add i 3]
      exact ih (i + 3) (by omega) (by omega)
    refine ev_aload_n d_DateReader_threeLetters_12 rfl rfl ?_
    refine ev_iconst (v := 0) d_DateReader_threeLetters_13 (by decide) ?_
    refine ev_aload_n d_DateReader_threeLetters_14 rfl rfl ?_
    refine ev_iload_n d_DateReader_threeLetters_15 rfl rfl ?_
    refine ev_Bv [.int (nI i)] [.int 0, .ref (X + 39)] ca_DateReader_threeLetters_98 d_DateReader_threeLetters_16 (hs.1) rfl (Nat.le_of_ble_eq_true rfl) (hs.2.2 h i (by omega)) ?_
    refine ev_Vr (ci := 7) [.int 0, .int _] [] ca_DateReader_threeLetters_102 d_DateReader_threeLetters_19 rfl (hA) rfl (Nat.le_of_ble_eq_true rfl) (w_isLetter hNm hT S O 0 _) (fun v h1 z => ?_)
    obtain ⟨⟨q, rfl⟩, z⟩ := z
    obtain rfl := z.symm
    refine ev_if_eq (tgt := 59) d_DateReader_threeLetters_22 (by decide) (fun c_22 => ?_) (fun c_22 => ?_)
    · exact on
    · refine ev_aload_n d_DateReader_threeLetters_25 rfl rfl ?_
      refine ev_iconst (v := 1) d_DateReader_threeLetters_26 (by decide) ?_
      refine ev_aload_n d_DateReader_threeLetters_27 rfl rfl ?_
      refine ev_iload_n d_DateReader_threeLetters_28 rfl rfl ?_
      refine ev_iconst (v := 1) d_DateReader_threeLetters_29 (by decide) ?_
      refine ev_iadd d_DateReader_threeLetters_30 ?_
      rw [show nI i + 1 = nI (i + 1) from nI_1 i]
      refine ev_Bv [.int (nI (i + 1))] [.int 1, .ref (X + 39)] ca_DateReader_threeLetters_98 d_DateReader_threeLetters_31 (hs.1) rfl (Nat.le_of_ble_eq_true rfl) (hs.2.2 _ (i + 1) (by omega)) ?_
      refine ev_Vr (ci := 7) [.int 1, .int _] [] ca_DateReader_threeLetters_102 d_DateReader_threeLetters_34 rfl (hA) rfl (Nat.le_of_ble_eq_true rfl) (w_isLetter hNm hT S O 1 _) (fun v h1 z => ?_)
      obtain ⟨⟨q, rfl⟩, z⟩ := z
      obtain rfl := z.symm
      refine ev_if_eq (tgt := 59) d_DateReader_threeLetters_37 (by decide) (fun c_37 => ?_) (fun c_37 => ?_)
      · exact on
      · refine ev_aload_n d_DateReader_threeLetters_40 rfl rfl ?_
        refine ev_iconst (v := 2) d_DateReader_threeLetters_41 (by decide) ?_
        refine ev_aload_n d_DateReader_threeLetters_42 rfl rfl ?_
        refine ev_iload_n d_DateReader_threeLetters_43 rfl rfl ?_
        refine ev_iconst (v := 2) d_DateReader_threeLetters_44 (by decide) ?_
        refine ev_iadd d_DateReader_threeLetters_45 ?_
        rw [show nI i + 2 = nI (i + 2) from nI_add i 2]
        refine ev_Bv [.int (nI (i + 2))] [.int 2, .ref (X + 39)] ca_DateReader_threeLetters_98 d_DateReader_threeLetters_46 (hs.1) rfl (Nat.le_of_ble_eq_true rfl) (hs.2.2 _ (i + 2) (by omega)) ?_
        refine ev_Vr (ci := 7) [.int 2, .int _] [] ca_DateReader_threeLetters_102 d_DateReader_threeLetters_49 rfl (hA) rfl (Nat.le_of_ble_eq_true rfl) (w_isLetter hNm hT S O 2 _) (fun v h1 z => ?_)
        obtain ⟨⟨q, rfl⟩, z⟩ := z
        obtain rfl := z.symm
        refine ev_if_eq (tgt := 59) d_DateReader_threeLetters_52 (by decide) (fun c_52 => ?_) (fun c_52 => ?_)
        · exact on
        · refine ev_iload_n d_DateReader_threeLetters_55 rfl rfl ?_
          refine ev_iconst (v := 3) d_DateReader_threeLetters_56 (by decide) ?_
          refine ev_idiv d_DateReader_threeLetters_57 (by decide) ?_
          refine ev_iret d_DateReader_threeLetters_58 rfl ?_
          exact ⟨_, rfl, ⟨_, rfl⟩, rfl⟩
theorem w_threeLetters (hNm : gl_nm G) (hT : (gl_t G)[0]? = some (cI, .int)) {h : hp_T} {σ : rwT} (S : tS cI X h σ) (O : dO X h) {str : Nat} {cs : List Int32} (hs : gSl G str cs) (hc : cs.length < 2 ^ 30) : ct_E G m_DateReader_threeLetters [.ref (X + 39), .ref str] h (pu h) := by
  refine ct_of (ws' := tb_all) rfl rfl (Nat.le_of_ble_eq_true rfl) ?_
  refine ev_iconst (v := 0) d_DateReader_threeLetters_0 (by decide) ?_
  refine ev_istore_n d_DateReader_threeLetters_1 rfl (by decide) ?_
  exact l_threeLetters hNm hT S O hs hc cs.length 0 (by omega) (by omega)
theorem w_isBelow {h : hp_T} (a b : Int32) : ct_E G m_DateReader_isBelow [.int a, .int b] h (pu h) := by
  refine ct_of (ws' := tb_all) rfl rfl (Nat.le_of_ble_eq_true rfl) ?_
  refine ev_iload_n d_DateReader_isBelow_0 rfl rfl ?_
  refine ev_if_lt (tgt := 13) d_DateReader_isBelow_1 (by decide) (fun c_1 => ?_) (fun c_1 => ?_)
  · refine ev_iconst (v := 0) d_DateReader_isBelow_13 (by decide) ?_
    refine ev_zret d_DateReader_isBelow_14 rfl rfl ?_
    exact ⟨_, rfl, ⟨_, rfl⟩, rfl⟩
  · refine ev_iload_n d_DateReader_isBelow_4 rfl rfl ?_
    refine ev_iload_n d_DateReader_isBelow_5 rfl rfl ?_
    refine ev_icmp_ge (tgt := 13) d_DateReader_isBelow_6 (by decide) (fun c_6 => ?_) (fun c_6 => ?_)
    · refine ev_iconst (v := 0) d_DateReader_isBelow_13 (by decide) ?_
      refine ev_zret d_DateReader_isBelow_14 rfl rfl ?_
      exact ⟨_, rfl, ⟨_, rfl⟩, rfl⟩
    · refine ev_iconst (v := 1) d_DateReader_isBelow_9 (by decide) ?_
      refine ev_goto (tgt := 14) d_DateReader_isBelow_10 (by decide) ?_
      refine ev_zret d_DateReader_isBelow_14 rfl rfl ?_
      exact ⟨_, rfl, ⟨_, rfl⟩, rfl⟩
theorem w_daysOf {tm tz sm sz : Nat} (hD : gDt G tm tz sm sz) {h : hp_T} (y m : Int32) : ct_E G m_DateReader_daysOf [.int y, .int m] h (pu h) := by
  obtain ⟨⟨hM, -⟩, -⟩ := hD
  refine ct_of (ws' := tb_all) rfl rfl (Nat.le_of_ble_eq_true rfl) ?_
  have no : ev_E G m_DateReader_daysOf 12 [(0, .int y), (1, .int m)] [] h (pu h) := by
    refine ev_iconst (v := 0) d_DateReader_daysOf_12 (by decide) ?_
    refine ev_iret d_DateReader_daysOf_13 rfl ?_
    exact ⟨_, rfl, ⟨_, rfl⟩, rfl⟩
  refine ev_iload_n d_DateReader_daysOf_0 rfl rfl ?_
  refine ev_if_lt (tgt := 12) d_DateReader_daysOf_1 (by decide) (fun c_1 => ?_) (fun c_1 => ?_)
  · exact no
  · refine ev_iload_n d_DateReader_daysOf_4 rfl rfl ?_
    refine ev_gets hM.1 (List.mem_cons_of_mem _ (tb_in 958 (by decide +kernel) rfl)) d_DateReader_daysOf_5 ?_
    refine ev_blen hM.2 d_DateReader_daysOf_8 ?_
    refine ev_icmp_lt (tgt := 14) d_DateReader_daysOf_9 (by decide) (fun c_9 => ?_) (fun c_9 => ?_)
    · obtain ⟨j, hj, rfl⟩ := nI_of c_1
      have hj2 : j < mdL.length := (nI_ltI hj (by decide)).mp c_9
      have tab : ∀ q : Int32, ev_E G m_DateReader_daysOf 55 [(0, .int y), (1, .int (nI j)), (2, .int q)] [] h (pu h) := by
        intro q
        refine ev_gets hM.1 (List.mem_cons_of_mem _ (tb_in 958 (by decide +kernel) rfl)) d_DateReader_daysOf_55 ?_
        refine ev_iload_n d_DateReader_daysOf_58 rfl rfl ?_
        refine ev_biald hM.2 (nI_in hj2 (by decide)) d_DateReader_daysOf_59 ?_
        refine ev_iret d_DateReader_daysOf_60 rfl ?_
        exact ⟨_, rfl, ⟨_, rfl⟩, rfl⟩
      have a40 : ∀ q : Int32, ev_E G m_DateReader_daysOf 40 [(0, .int y), (1, .int (nI j))] [.int q] h (pu h) := by
        intro q
        refine ev_istore_n d_DateReader_daysOf_40 rfl (by decide) ?_
        refine ev_iload_n d_DateReader_daysOf_41 rfl rfl ?_
        refine ev_iconst (v := 1) d_DateReader_daysOf_42 (by decide) ?_
        refine ev_icmp_ne (tgt := 55) d_DateReader_daysOf_43 (by decide) (fun c_43 => ?_) (fun c_43 => ?_)
        · exact tab q
        · refine ev_iload_n d_DateReader_daysOf_46 rfl rfl ?_
          refine ev_if_eq (tgt := 55) d_DateReader_daysOf_47 (by decide) (fun c_47 => ?_) (fun c_47 => ?_)
          · exact tab q
          · refine ev_bipush (v := 29) d_DateReader_daysOf_50 (by decide) ?_
            refine ev_goto (tgt := 60) d_DateReader_daysOf_52 (by decide) ?_
            refine ev_iret d_DateReader_daysOf_60 rfl ?_
            exact ⟨_, rfl, ⟨_, rfl⟩, rfl⟩
      have n39 : ev_E G m_DateReader_daysOf 39 [(0, .int y), (1, .int (nI j))] [] h (pu h) := by
        refine ev_iconst (v := 0) d_DateReader_daysOf_39 (by decide) ?_
        exact a40 0
      have y35 : ev_E G m_DateReader_daysOf 35 [(0, .int y), (1, .int (nI j))] [] h (pu h) := by
        refine ev_iconst (v := 1) d_DateReader_daysOf_35 (by decide) ?_
        refine ev_goto (tgt := 40) d_DateReader_daysOf_36 (by decide) ?_
        exact a40 1
      refine ev_iload_n d_DateReader_daysOf_14 rfl rfl ?_
      refine ev_iconst (v := 4) d_DateReader_daysOf_15 (by decide) ?_
      refine ev_irem d_DateReader_daysOf_16 (by decide) ?_
      refine ev_if_ne (tgt := 39) d_DateReader_daysOf_17 (by decide) (fun c_17 => ?_) (fun c_17 => ?_)
      · exact n39
      · refine ev_iload_n d_DateReader_daysOf_20 rfl rfl ?_
        refine ev_bipush (v := 100) d_DateReader_daysOf_21 (by decide) ?_
        refine ev_irem d_DateReader_daysOf_23 (by decide) ?_
        refine ev_if_ne (tgt := 35) d_DateReader_daysOf_24 (by decide) (fun c_24 => ?_) (fun c_24 => ?_)
        · exact y35
        · refine ev_iload_n d_DateReader_daysOf_27 rfl rfl ?_
          refine ev_sipush (v := 400) d_DateReader_daysOf_28 (by decide) ?_
          refine ev_irem d_DateReader_daysOf_31 (by decide) ?_
          refine ev_if_ne (tgt := 39) d_DateReader_daysOf_32 (by decide) (fun c_32 => ?_) (fun c_32 => ?_)
          · exact n39
          · exact y35
    · exact no
theorem w_daysAhead {h : hp_T} (y : Int32) : ct_E G m_DateReader_daysAhead [.int y] h (pu h) := by
  refine ct_of (ws' := tb_all) rfl rfl (Nat.le_of_ble_eq_true rfl) ?_
  refine ev_iload_n d_DateReader_daysAhead_0 rfl rfl ?_
  refine ev_iconst (v := 1) d_DateReader_daysAhead_1 (by decide) ?_
  refine ev_isub d_DateReader_daysAhead_2 ?_
  refine ev_istore_n d_DateReader_daysAhead_3 rfl (by decide) ?_
  refine ev_sipush (v := 365) d_DateReader_daysAhead_4 (by decide) ?_
  refine ev_iload_n d_DateReader_daysAhead_7 rfl rfl ?_
  refine ev_imul d_DateReader_daysAhead_8 ?_
  refine ev_iload_n d_DateReader_daysAhead_9 rfl rfl ?_
  refine ev_iconst (v := 4) d_DateReader_daysAhead_10 (by decide) ?_
  refine ev_idiv d_DateReader_daysAhead_11 (by decide) ?_
  refine ev_iadd d_DateReader_daysAhead_12 ?_
  refine ev_iload_n d_DateReader_daysAhead_13 rfl rfl ?_
  refine ev_bipush (v := 100) d_DateReader_daysAhead_14 (by decide) ?_
  refine ev_idiv d_DateReader_daysAhead_16 (by decide) ?_
  refine ev_isub d_DateReader_daysAhead_17 ?_
  refine ev_iload_n d_DateReader_daysAhead_18 rfl rfl ?_
  refine ev_sipush (v := 400) d_DateReader_daysAhead_19 (by decide) ?_
  refine ev_idiv d_DateReader_daysAhead_22 (by decide) ?_
  refine ev_iadd d_DateReader_daysAhead_23 ?_
  refine ev_iret d_DateReader_daysAhead_24 rfl ?_
  exact ⟨_, rfl, ⟨_, rfl⟩, rfl⟩
theorem l_since {tm tz sm sz : Nat} (hD : gDt G tm tz sm sz) {h : hp_T} {y m dd : Int32} : ∀ (d : Nat) (i n : Int32), (m.toInt - i.toInt).toNat = d → ev_E G m_DateReader_daysSince1970 19 [(0, .int y), (1, .int m), (2, .int dd), (3, .int n), (4, .int i)] [] h (pu h) := by
  intro d
  induction d using Nat.strongRecOn with
  | ind d ih =>
    intro i n hd
    refine ev_iload d_DateReader_daysSince1970_19 rfl ?_
    refine ev_iload_n d_DateReader_daysSince1970_21 rfl rfl ?_
    refine ev_icmp_ge (tgt := 40) d_DateReader_daysSince1970_22 (by decide) (fun c_22 => ?_) (fun c_22 => ?_)
    · refine ev_iload_n d_DateReader_daysSince1970_40 rfl rfl ?_
      refine ev_iret d_DateReader_daysSince1970_41 rfl ?_
      exact ⟨_, rfl, ⟨_, rfl⟩, rfl⟩
    · have e1 := i32_s c_22
      have e2 := i32_lt c_22
      refine ev_iload_n d_DateReader_daysSince1970_25 rfl rfl ?_
      refine ev_iload_n d_DateReader_daysSince1970_26 rfl rfl ?_
      refine ev_iload d_DateReader_daysSince1970_27 rfl ?_
      refine ev_Sr [.int y, .int i] [.int n] ca_DateReader_daysSince1970_117 d_DateReader_daysSince1970_29 rfl (Nat.le_of_ble_eq_true rfl) (w_daysOf hD y i) (fun v h1 z => ?_)
      obtain ⟨⟨q, rfl⟩, z⟩ := z
      obtain rfl := z.symm
      refine ev_iadd d_DateReader_daysSince1970_32 ?_
      refine ev_istore_n d_DateReader_daysSince1970_33 rfl (by decide) ?_
      refine ev_iinc d_DateReader_daysSince1970_34 rfl (by decide) ?_
      refine ev_goto (tgt := 19) d_DateReader_daysSince1970_37 (by decide) ?_
      exact ev_as [(0, .int y), (1, .int m), (2, .int dd), (3, .int _), (4, .int (i + 1))] ⟨rfl, rfl, rfl, rfl, rfl, trivial⟩ (ih _ (by rw [e1]; omega) (i + 1) _ rfl)
theorem w_since {tm tz sm sz : Nat} (hD : gDt G tm tz sm sz) {h : hp_T} (y m dd : Int32) : ct_E G m_DateReader_daysSince1970 [.int y, .int m, .int dd] h (pu h) := by
  refine ct_of (ws' := tb_all) rfl rfl (Nat.le_of_ble_eq_true rfl) ?_
  refine ev_iload_n d_DateReader_daysSince1970_0 rfl rfl ?_
  refine ev_Sr [.int y] [] ca_DateReader_daysSince1970_123 d_DateReader_daysSince1970_1 rfl (Nat.le_of_ble_eq_true rfl) (w_daysAhead y) (fun v h1 z => ?_)
  obtain ⟨⟨a, rfl⟩, z⟩ := z
  obtain rfl := z.symm
  refine ev_sipush (v := 1970) d_DateReader_daysSince1970_4 (by decide) ?_
  refine ev_Sr [.int 1970] [.int a] ca_DateReader_daysSince1970_123 d_DateReader_daysSince1970_7 rfl (Nat.le_of_ble_eq_true rfl) (w_daysAhead 1970) (fun v h1 z => ?_)
  obtain ⟨⟨b, rfl⟩, z⟩ := z
  obtain rfl := z.symm
  refine ev_isub d_DateReader_daysSince1970_10 ?_
  refine ev_iload_n d_DateReader_daysSince1970_11 rfl rfl ?_
  refine ev_iadd d_DateReader_daysSince1970_12 ?_
  refine ev_iconst (v := 1) d_DateReader_daysSince1970_13 (by decide) ?_
  refine ev_isub d_DateReader_daysSince1970_14 ?_
  refine ev_istore_n d_DateReader_daysSince1970_15 rfl (by decide) ?_
  refine ev_iconst (v := 0) d_DateReader_daysSince1970_16 (by decide) ?_
  refine ev_istore d_DateReader_daysSince1970_17 (by decide) ?_
  exact l_since hD _ _ _ rfl
theorem w_isDay {tm tz sm sz : Nat} (hD : gDt G tm tz sm sz) {h : hp_T} (y m dd : Int32) : ct_E G m_DateReader_isDay [.int y, .int m, .int dd] h (pu h) := by
  refine ct_of (ws' := tb_all) rfl rfl (Nat.le_of_ble_eq_true rfl) ?_
  have no : ev_E G m_DateReader_isDay 32 [(0, .int y), (1, .int m), (2, .int dd)] [] h (pu h) := by
    refine ev_iconst (v := 0) d_DateReader_isDay_32 (by decide) ?_
    refine ev_zret d_DateReader_isDay_33 rfl rfl ?_
    exact ⟨_, rfl, ⟨_, rfl⟩, rfl⟩
  refine ev_iload_n d_DateReader_isDay_0 rfl rfl ?_
  refine ev_sipush (v := 1900) d_DateReader_isDay_1 (by decide) ?_
  refine ev_icmp_lt (tgt := 32) d_DateReader_isDay_4 (by decide) (fun c_4 => ?_) (fun c_4 => ?_)
  · exact no
  · refine ev_iload_n d_DateReader_isDay_7 rfl rfl ?_
    refine ev_sipush (v := 2999) d_DateReader_isDay_8 (by decide) ?_
    refine ev_icmp_gt (tgt := 32) d_DateReader_isDay_11 (by decide) (fun c_11 => ?_) (fun c_11 => ?_)
    · exact no
    · refine ev_iload_n d_DateReader_isDay_14 rfl rfl ?_
      refine ev_iconst (v := 1) d_DateReader_isDay_15 (by decide) ?_
      refine ev_icmp_lt (tgt := 32) d_DateReader_isDay_16 (by decide) (fun c_16 => ?_) (fun c_16 => ?_)
      · exact no
      · refine ev_iload_n d_DateReader_isDay_19 rfl rfl ?_
        refine ev_iload_n d_DateReader_isDay_20 rfl rfl ?_
        refine ev_iload_n d_DateReader_isDay_21 rfl rfl ?_
        refine ev_Sr [.int y, .int m] [.int dd] ca_DateReader_isDay_117 d_DateReader_isDay_22 rfl (Nat.le_of_ble_eq_true rfl) (w_daysOf hD y m) (fun v h1 z => ?_)
        obtain ⟨⟨q, rfl⟩, z⟩ := z
        obtain rfl := z.symm
        refine ev_icmp_gt (tgt := 32) d_DateReader_isDay_25 (by decide) (fun c_25 => ?_) (fun c_25 => ?_)
        · exact no
        · refine ev_iconst (v := 1) d_DateReader_isDay_28 (by decide) ?_
          refine ev_goto (tgt := 33) d_DateReader_isDay_29 (by decide) ?_
          refine ev_zret d_DateReader_isDay_33 rfl rfl ?_
          exact ⟨_, rfl, ⟨_, rfl⟩, rfl⟩
theorem w_signedZone (hNm : gl_nm G) (hT : (gl_t G)[0]? = some (cI, .int)) {h : hp_T} {σ : rwT} (S : tS cI X h σ) (O : dO X h) (s : Int32) : ct_E G m_DateReader_signedZone [.ref (X + 39), .int s] h (pu h) := by
  obtain ⟨⟨p, hA⟩, r, hW⟩ := id O
  refine ct_of (ws' := tb_all) rfl rfl (Nat.le_of_ble_eq_true rfl) ?_
  refine ev_aload_n d_DateReader_signedZone_0 rfl rfl ?_
  refine ev_iconst (v := 1) d_DateReader_signedZone_1 (by decide) ?_
  refine ev_iconst (v := 3) d_DateReader_signedZone_2 (by decide) ?_
  refine ev_Vr (ci := 7) [.int 1, .int 3] [] ca_DateReader_signedZone_78 d_DateReader_signedZone_3 rfl (hA) rfl (Nat.le_of_ble_eq_true rfl) (w_digits hNm hT S O 1 3) (fun v h1 z => ?_)
  obtain ⟨⟨a, rfl⟩, z⟩ := z
  obtain rfl := z.symm
  refine ev_istore_n d_DateReader_signedZone_6 rfl (by decide) ?_
  refine ev_aload_n d_DateReader_signedZone_7 rfl rfl ?_
  refine ev_iconst (v := 3) d_DateReader_signedZone_8 (by decide) ?_
  refine ev_iconst (v := 5) d_DateReader_signedZone_9 (by decide) ?_
  refine ev_Vr (ci := 7) [.int 3, .int 5] [] ca_DateReader_signedZone_78 d_DateReader_signedZone_10 rfl (hA) rfl (Nat.le_of_ble_eq_true rfl) (w_digits hNm hT S O 3 5) (fun v h1 z => ?_)
  obtain ⟨⟨b, rfl⟩, z⟩ := z
  obtain rfl := z.symm
  have no : ev_E G m_DateReader_signedZone 44 [(0, .ref (X + 39)), (1, .int s), (2, .int a), (3, .int b)] [] h (pu h) := by
    refine ev_iconst (v := 0) d_DateReader_signedZone_44 (by decide) ?_
    refine ev_iret d_DateReader_signedZone_45 rfl ?_
    exact ⟨_, rfl, ⟨_, rfl⟩, rfl⟩
  have a26 : ev_E G m_DateReader_signedZone 26 [(0, .ref (X + 39)), (1, .int s), (2, .int a), (3, .int b)] [] h (pu h) := by
    refine ev_iload_n d_DateReader_signedZone_26 rfl rfl ?_
    refine ev_bipush (v := 24) d_DateReader_signedZone_27 (by decide) ?_
    refine ev_Sr [.int a, .int 24] [] ca_DateReader_signedZone_48 d_DateReader_signedZone_29 rfl (Nat.le_of_ble_eq_true rfl) (w_isBelow a 24) (fun v h1 z => ?_)
    obtain ⟨⟨q, rfl⟩, z⟩ := z
    obtain rfl := z.symm
    refine ev_if_eq (tgt := 44) d_DateReader_signedZone_32 (by decide) (fun c_32 => ?_) (fun c_32 => ?_)
    · exact no
    · refine ev_iload_n d_DateReader_signedZone_35 rfl rfl ?_
      refine ev_bipush (v := 60) d_DateReader_signedZone_36 (by decide) ?_
      refine ev_Sr [.int b, .int 60] [] ca_DateReader_signedZone_48 d_DateReader_signedZone_38 rfl (Nat.le_of_ble_eq_true rfl) (w_isBelow b 60) (fun v h1 z => ?_)
      obtain ⟨⟨q2, rfl⟩, z⟩ := z
      obtain rfl := z.symm
      refine ev_if_ne (tgt := 46) d_DateReader_signedZone_41 (by decide) (fun c_41 => ?_) (fun c_41 => ?_)
      · refine ev_bipush (v := 60) d_DateReader_signedZone_46 (by decide) ?_
        refine ev_bipush (v := 60) d_DateReader_signedZone_48 (by decide) ?_
        refine ev_iload_n d_DateReader_signedZone_50 rfl rfl ?_
        refine ev_imul d_DateReader_signedZone_51 ?_
        refine ev_iload_n d_DateReader_signedZone_52 rfl rfl ?_
        refine ev_iadd d_DateReader_signedZone_53 ?_
        refine ev_imul d_DateReader_signedZone_54 ?_
        refine ev_istore d_DateReader_signedZone_55 (by decide) ?_
        refine ev_iload_n d_DateReader_signedZone_57 rfl rfl ?_
        refine ev_bipush (v := 45) d_DateReader_signedZone_58 (by decide) ?_
        refine ev_icmp_ne (tgt := 69) d_DateReader_signedZone_60 (by decide) (fun c_60 => ?_) (fun c_60 => ?_)
        · refine ev_iload d_DateReader_signedZone_69 rfl ?_
          refine ev_iret d_DateReader_signedZone_71 rfl ?_
          exact ⟨_, rfl, ⟨_, rfl⟩, rfl⟩
        · refine ev_iload d_DateReader_signedZone_63 rfl ?_
          refine ev_ineg d_DateReader_signedZone_65 ?_
          refine ev_goto (tgt := 71) d_DateReader_signedZone_66 (by decide) ?_
          refine ev_iret d_DateReader_signedZone_71 rfl ?_
          exact ⟨_, rfl, ⟨_, rfl⟩, rfl⟩
      · exact no
  refine ev_istore_n d_DateReader_signedZone_13 rfl (by decide) ?_
  refine ev_iload_n d_DateReader_signedZone_14 rfl rfl ?_
  refine ev_bipush (v := 43) d_DateReader_signedZone_15 (by decide) ?_
  refine ev_icmp_eq (tgt := 26) d_DateReader_signedZone_17 (by decide) (fun c_17 => ?_) (fun c_17 => ?_)
  · exact a26
  · refine ev_iload_n d_DateReader_signedZone_20 rfl rfl ?_
    refine ev_bipush (v := 45) d_DateReader_signedZone_21 (by decide) ?_
    refine ev_icmp_ne (tgt := 44) d_DateReader_signedZone_23 (by decide) (fun c_23 => ?_) (fun c_23 => ?_)
    · exact no
    · exact a26
theorem w_zoneSeconds (hNm : gl_nm G) (hT : (gl_t G)[0]? = some (cI, .int)) {tm tz sm sz : Nat} (hD : gDt G tm tz sm sz) {h : hp_T} {σ : rwT} (S : tS cI X h σ) (O : dO X h) : ct_E G m_DateReader_zoneSeconds [.ref (X + 39)] h (pu h) := by
  have m11 : (11 : Nat) ∈ txs := by decide
  have m16 : (16 : Nat) ∈ rws := by decide
  obtain ⟨⟨-, hZ⟩, -, hs1, hs2⟩ := id hD
  obtain ⟨⟨p, hA⟩, r, hW⟩ := id O
  refine ct_of (ws' := tb_all) rfl rfl (Nat.le_of_ble_eq_true rfl) ?_
  refine ev_aload_n d_DateReader_zoneSeconds_0 rfl rfl ?_
  refine ev_get (fa_DateReader_11 rfl rfl) d_DateReader_zoneSeconds_1 hA rfl ?_
  refine ev_Vv (ci := 4) [] [] ca_DateReader_zoneSeconds_69 d_DateReader_zoneSeconds_4 rfl (hW) rfl (Nat.le_of_ble_eq_true rfl) (w_wtexts hW) ?_
  refine ev_aload_n d_DateReader_zoneSeconds_7 rfl rfl ?_
  refine ev_get (fa_DateReader_17 rfl rfl) d_DateReader_zoneSeconds_8 hA rfl ?_
  refine ev_Vv (ci := 3) [.int p] [] ca_DateReader_zoneSeconds_73 d_DateReader_zoneSeconds_11 rfl ((S.2 11 m11)) rfl (Nat.le_of_ble_eq_true rfl) (w_sizeOf hT S m11 p) ?_
  generalize szO (σ (11 + 3)).2.2 p = n
  refine ev_istore_n d_DateReader_zoneSeconds_14 rfl (by decide) ?_
  refine ev_aload_n d_DateReader_zoneSeconds_15 rfl rfl ?_
  refine ev_get (fa_DateReader_11 rfl rfl) d_DateReader_zoneSeconds_16 hA rfl ?_
  refine ev_Vv (ci := 4) [] [] ca_DateReader_zoneSeconds_21 d_DateReader_zoneSeconds_19 rfl (hW) rfl (Nat.le_of_ble_eq_true rfl) (w_wkinds hW) ?_
  refine ev_aload_n d_DateReader_zoneSeconds_22 rfl rfl ?_
  refine ev_get (fa_DateReader_17 rfl rfl) d_DateReader_zoneSeconds_23 hA rfl ?_
  refine ev_Vv (ci := 1) [.int p] [] ca_DateReader_zoneSeconds_27 d_DateReader_zoneSeconds_26 rfl ((S.1.1 _ m16).1.1) rfl (Nat.le_of_ble_eq_true rfl) (w_get hT S.1 m16 p) ?_
  refine ev_iconst (v := 1) d_DateReader_zoneSeconds_29 (by decide) ?_
  refine ev_icmp_eq (tgt := 35) d_DateReader_zoneSeconds_30 (by decide) (fun c_30 => ?_) (fun c_30 => ?_)
  · refine ev_iload_n d_DateReader_zoneSeconds_35 rfl rfl ?_
    refine ev_iconst (v := 3) d_DateReader_zoneSeconds_36 (by decide) ?_
    refine ev_icmp_ne (tgt := 73) d_DateReader_zoneSeconds_37 (by decide) (fun c_37 => ?_) (fun c_37 => ?_)
    · refine ev_iload_n d_DateReader_zoneSeconds_73 rfl rfl ?_
      refine ev_iconst (v := 5) d_DateReader_zoneSeconds_74 (by decide) ?_
      refine ev_icmp_ne (tgt := 100) d_DateReader_zoneSeconds_75 (by decide) (fun c_75 => ?_) (fun c_75 => ?_)
      · refine ev_iconst (v := 0) d_DateReader_zoneSeconds_100 (by decide) ?_
        refine ev_iret d_DateReader_zoneSeconds_101 rfl ?_
        exact ⟨_, rfl, ⟨_, rfl⟩, rfl⟩
      · refine ev_aload_n d_DateReader_zoneSeconds_78 rfl rfl ?_
        refine ev_aload_n d_DateReader_zoneSeconds_79 rfl rfl ?_
        refine ev_get (fa_DateReader_11 rfl rfl) d_DateReader_zoneSeconds_80 hA rfl ?_
        refine ev_Vv (ci := 4) [] [.ref (X + 39)] ca_DateReader_zoneSeconds_69 d_DateReader_zoneSeconds_83 rfl (hW) rfl (Nat.le_of_ble_eq_true rfl) (w_wtexts hW) ?_
        refine ev_aload_n d_DateReader_zoneSeconds_86 rfl rfl ?_
        refine ev_get (fa_DateReader_17 rfl rfl) d_DateReader_zoneSeconds_87 hA rfl ?_
        refine ev_iconst (v := 0) d_DateReader_zoneSeconds_90 (by decide) ?_
        refine ev_Vv (ci := 3) [.int p, .int 0] [.ref (X + 39)] ca_DateReader_zoneSeconds_87 d_DateReader_zoneSeconds_91 rfl ((S.2 11 m11)) rfl (Nat.le_of_ble_eq_true rfl) (w_byteOf hT S m11 p 0) ?_
        refine ev_Vr (ci := 7) [.int _] [] ca_DateReader_zoneSeconds_114 d_DateReader_zoneSeconds_94 rfl (hA) rfl (Nat.le_of_ble_eq_true rfl) (w_signedZone hNm hT S O _) (fun v h1 z => ?_)
        obtain ⟨⟨q, rfl⟩, z⟩ := z
        obtain rfl := z.symm
        refine ev_goto (tgt := 101) d_DateReader_zoneSeconds_97 (by decide) ?_
        refine ev_iret d_DateReader_zoneSeconds_101 rfl ?_
        exact ⟨_, rfl, ⟨_, rfl⟩, rfl⟩
    · refine ev_aload_n d_DateReader_zoneSeconds_40 rfl rfl ?_
      refine ev_ldcS (tx := "estedtcstcdtmstmdtpstpdt") hs1 d_DateReader_zoneSeconds_41 ?_
      refine ev_Vr (ci := 7) [.ref sz] [] ca_DateReader_zoneSeconds_83 d_DateReader_zoneSeconds_43 rfl (hA) rfl (Nat.le_of_ble_eq_true rfl) (w_threeLetters hNm hT S O hs2 (by decide)) (fun v h1 z => ?_)
      obtain ⟨⟨q, rfl⟩, z⟩ := z
      obtain rfl := z.symm
      refine ev_istore_n d_DateReader_zoneSeconds_46 rfl (by decide) ?_
      refine ev_iload_n d_DateReader_zoneSeconds_47 rfl rfl ?_
      refine ev_if_lt (tgt := 71) d_DateReader_zoneSeconds_48 (by decide) (fun c_48 => ?_) (fun c_48 => ?_)
      · refine ev_iconst (v := 0) d_DateReader_zoneSeconds_71 (by decide) ?_
        refine ev_iret d_DateReader_zoneSeconds_72 rfl ?_
        exact ⟨_, rfl, ⟨_, rfl⟩, rfl⟩
      · refine ev_iload_n d_DateReader_zoneSeconds_51 rfl rfl ?_
        refine ev_gets hZ.1 (List.mem_cons_of_mem _ (tb_in 974 (by decide +kernel) rfl)) d_DateReader_zoneSeconds_52 ?_
        refine ev_blen hZ.2 d_DateReader_zoneSeconds_55 ?_
        refine ev_icmp_ge (tgt := 71) d_DateReader_zoneSeconds_56 (by decide) (fun c_56 => ?_) (fun c_56 => ?_)
        · refine ev_iconst (v := 0) d_DateReader_zoneSeconds_71 (by decide) ?_
          refine ev_iret d_DateReader_zoneSeconds_72 rfl ?_
          exact ⟨_, rfl, ⟨_, rfl⟩, rfl⟩
        · obtain ⟨j, hj, rfl⟩ := nI_of c_48
          have hj2 : j < zhL.length := Nat.lt_of_not_le (fun q => c_56 (nI_le q hj))
          refine ev_sipush (v := 3600) d_DateReader_zoneSeconds_59 (by decide) ?_
          refine ev_gets hZ.1 (List.mem_cons_of_mem _ (tb_in 974 (by decide +kernel) rfl)) d_DateReader_zoneSeconds_62 ?_
          refine ev_iload_n d_DateReader_zoneSeconds_65 rfl rfl ?_
          refine ev_biald hZ.2 (nI_in hj2 (by decide)) d_DateReader_zoneSeconds_66 ?_
          refine ev_imul d_DateReader_zoneSeconds_67 ?_
          refine ev_goto (tgt := 72) d_DateReader_zoneSeconds_68 (by decide) ?_
          refine ev_iret d_DateReader_zoneSeconds_72 rfl ?_
          exact ⟨_, rfl, ⟨_, rfl⟩, rfl⟩
  · refine ev_iconst (v := 0) d_DateReader_zoneSeconds_33 (by decide) ?_
    refine ev_iret d_DateReader_zoneSeconds_34 rfl ?_
    exact ⟨_, rfl, ⟨_, rfl⟩, rfl⟩
theorem w_takeNumber (hNm : gl_nm G) (hT : (gl_t G)[0]? = some (cI, .int)) {h : hp_T} {σ : rwT} (S : tS cI X h σ) (O : dO X h) (a b : Int32) : ct_E G m_DateReader_takeNumber [.ref (X + 39), .int a, .int b] h (dtR X h) := by
  have m11 : (11 : Nat) ∈ txs := by decide
  have m16 : (16 : Nat) ∈ rws := by decide
  obtain ⟨⟨p, hA⟩, r, hW⟩ := id O
  refine ct_of (ws' := tb_all) rfl rfl (Nat.le_of_ble_eq_true rfl) ?_
  refine ev_aload_n d_DateReader_takeNumber_0 rfl rfl ?_
  refine ev_get (fa_DateReader_11 rfl rfl) d_DateReader_takeNumber_1 hA rfl ?_
  refine ev_Vv (ci := 4) [] [] ca_DateReader_takeNumber_69 d_DateReader_takeNumber_4 rfl (hW) rfl (Nat.le_of_ble_eq_true rfl) (w_wtexts hW) ?_
  refine ev_aload_n d_DateReader_takeNumber_7 rfl rfl ?_
  refine ev_get (fa_DateReader_17 rfl rfl) d_DateReader_takeNumber_8 hA rfl ?_
  refine ev_Vv (ci := 3) [.int p] [] ca_DateReader_takeNumber_73 d_DateReader_takeNumber_11 rfl ((S.2 11 m11)) rfl (Nat.le_of_ble_eq_true rfl) (w_sizeOf hT S m11 p) ?_
  generalize szO (σ (11 + 3)).2.2 p = n
  refine ev_istore_n d_DateReader_takeNumber_14 rfl (by decide) ?_
  refine ev_aload_n d_DateReader_takeNumber_15 rfl rfl ?_
  refine ev_get (fa_DateReader_11 rfl rfl) d_DateReader_takeNumber_16 hA rfl ?_
  refine ev_Vv (ci := 4) [] [] ca_DateReader_takeNumber_21 d_DateReader_takeNumber_19 rfl (hW) rfl (Nat.le_of_ble_eq_true rfl) (w_wkinds hW) ?_
  refine ev_aload_n d_DateReader_takeNumber_22 rfl rfl ?_
  refine ev_get (fa_DateReader_17 rfl rfl) d_DateReader_takeNumber_23 hA rfl ?_
  refine ev_Vv (ci := 1) [.int p] [] ca_DateReader_takeNumber_27 d_DateReader_takeNumber_26 rfl ((S.1.1 _ m16).1.1) rfl (Nat.le_of_ble_eq_true rfl) (w_get hT S.1 m16 p) ?_
  have no : ev_E G m_DateReader_takeNumber 43 [(0, .ref (X + 39)), (1, .int a), (2, .int b), (3, .int n)] [] h (dtR X h) := by
    refine ev_iconst (v := (-1)) d_DateReader_takeNumber_43 (by decide) ?_
    refine ev_iret d_DateReader_takeNumber_44 rfl ?_
    exact ⟨_, rfl, ⟨_, rfl⟩, dtP_rf O⟩
  refine ev_iconst (v := 1) d_DateReader_takeNumber_29 (by decide) ?_
  refine ev_icmp_ne (tgt := 43) d_DateReader_takeNumber_30 (by decide) (fun c_30 => ?_) (fun c_30 => ?_)
  · exact no
  · refine ev_iload_n d_DateReader_takeNumber_33 rfl rfl ?_
    refine ev_iload_n d_DateReader_takeNumber_34 rfl rfl ?_
    refine ev_icmp_lt (tgt := 43) d_DateReader_takeNumber_35 (by decide) (fun c_35 => ?_) (fun c_35 => ?_)
    · exact no
    · refine ev_iload_n d_DateReader_takeNumber_38 rfl rfl ?_
      refine ev_iload_n d_DateReader_takeNumber_39 rfl rfl ?_
      refine ev_icmp_le (tgt := 45) d_DateReader_takeNumber_40 (by decide) (fun c_40 => ?_) (fun c_40 => ?_)
      · refine ev_aload_n d_DateReader_takeNumber_45 rfl rfl ?_
        refine ev_iconst (v := 0) d_DateReader_takeNumber_46 (by decide) ?_
        refine ev_iload_n d_DateReader_takeNumber_47 rfl rfl ?_
        refine ev_Vr (ci := 7) [.int 0, .int n] [] ca_DateReader_takeNumber_78 d_DateReader_takeNumber_48 rfl (hA) rfl (Nat.le_of_ble_eq_true rfl) (w_digits hNm hT S O 0 n) (fun v h1 z => ?_)
        obtain ⟨⟨q, rfl⟩, z⟩ := z
        obtain rfl := z.symm
        refine ev_istore d_DateReader_takeNumber_51 (by decide) ?_
        refine ev_aload_n d_DateReader_takeNumber_53 rfl rfl ?_
        refine ev_dup d_DateReader_takeNumber_54 rfl ?_
        refine ev_get (fa_DateReader_17 rfl rfl) d_DateReader_takeNumber_55 hA rfl ?_
        refine ev_iconst (v := 1) d_DateReader_takeNumber_58 (by decide) ?_
        refine ev_iadd d_DateReader_takeNumber_59 ?_
        refine ev_put (fp_DateReader_17 rfl rfl) d_DateReader_takeNumber_60 hA (Nat.le_of_ble_eq_true rfl) rfl rfl ?_
        refine ev_iload d_DateReader_takeNumber_63 rfl ?_
        refine ev_iret d_DateReader_takeNumber_65 rfl ?_
        exact ⟨_, rfl, ⟨_, rfl⟩, _, rfl⟩
      · exact no
theorem w_takeMonth (hNm : gl_nm G) (hT : (gl_t G)[0]? = some (cI, .int)) {tm tz sm sz : Nat} (hD : gDt G tm tz sm sz) {h : hp_T} {σ : rwT} (S : tS cI X h σ) (O : dO X h) : ct_E G m_DateReader_takeMonth [.ref (X + 39)] h (dtR X h) := by
  have m16 : (16 : Nat) ∈ rws := by decide
  obtain ⟨-, ⟨hs1, hs2⟩, -⟩ := id hD
  obtain ⟨⟨p, hA⟩, r, hW⟩ := id O
  refine ct_of (ws' := tb_all) rfl rfl (Nat.le_of_ble_eq_true rfl) ?_
  refine ev_aload_n d_DateReader_takeMonth_0 rfl rfl ?_
  refine ev_get (fa_DateReader_11 rfl rfl) d_DateReader_takeMonth_1 hA rfl ?_
  refine ev_Vv (ci := 4) [] [] ca_DateReader_takeMonth_21 d_DateReader_takeMonth_4 rfl (hW) rfl (Nat.le_of_ble_eq_true rfl) (w_wkinds hW) ?_
  refine ev_aload_n d_DateReader_takeMonth_7 rfl rfl ?_
  refine ev_get (fa_DateReader_17 rfl rfl) d_DateReader_takeMonth_8 hA rfl ?_
  refine ev_Vv (ci := 1) [.int p] [] ca_DateReader_takeMonth_27 d_DateReader_takeMonth_11 rfl ((S.1.1 _ m16).1.1) rfl (Nat.le_of_ble_eq_true rfl) (w_get hT S.1 m16 p) ?_
  have a28 : ∀ q : Int32, ev_E G m_DateReader_takeMonth 28 [(0, .ref (X + 39))] [.int q] h (dtR X h) := by
    intro q
    refine ev_istore_n d_DateReader_takeMonth_28 rfl (by decide) ?_
    refine ev_aload_n d_DateReader_takeMonth_29 rfl rfl ?_
    refine ev_dup d_DateReader_takeMonth_30 rfl ?_
    refine ev_get (fa_DateReader_17 rfl rfl) d_DateReader_takeMonth_31 hA rfl ?_
    refine ev_iconst (v := 1) d_DateReader_takeMonth_34 (by decide) ?_
    refine ev_iadd d_DateReader_takeMonth_35 ?_
    refine ev_put (fp_DateReader_17 rfl rfl) d_DateReader_takeMonth_36 hA (Nat.le_of_ble_eq_true rfl) rfl rfl ?_
    refine ev_iload_n d_DateReader_takeMonth_39 rfl rfl ?_
    refine ev_iret d_DateReader_takeMonth_40 rfl ?_
    exact ⟨_, rfl, ⟨_, rfl⟩, _, rfl⟩
  refine ev_iconst (v := 1) d_DateReader_takeMonth_14 (by decide) ?_
  refine ev_icmp_ne (tgt := 27) d_DateReader_takeMonth_15 (by decide) (fun c_15 => ?_) (fun c_15 => ?_)
  · refine ev_iconst (v := (-1)) d_DateReader_takeMonth_27 (by decide) ?_
    exact a28 (-1)
  · refine ev_aload_n d_DateReader_takeMonth_18 rfl rfl ?_
    refine ev_ldcS (tx := "janfebmaraprmayjunjulaugsepoctnovdec") hs1 d_DateReader_takeMonth_19 ?_
    refine ev_Vr (ci := 7) [.ref sm] [] ca_DateReader_takeMonth_83 d_DateReader_takeMonth_21 rfl (hA) rfl (Nat.le_of_ble_eq_true rfl) (w_threeLetters hNm hT S O hs2 (by decide)) (fun v h1 z => ?_)
    obtain ⟨⟨q, rfl⟩, z⟩ := z
    obtain rfl := z.symm
    refine ev_goto (tgt := 28) d_DateReader_takeMonth_24 (by decide) ?_
    exact a28 q
theorem w_takeYear (hNm : gl_nm G) (hT : (gl_t G)[0]? = some (cI, .int)) {h : hp_T} {σ : rwT} (S : tS cI X h σ) (O : dO X h) : ct_E G m_DateReader_takeYear [.ref (X + 39)] h (dtR X h) := by
  have m11 : (11 : Nat) ∈ txs := by decide
  obtain ⟨⟨p, hA⟩, r, hW⟩ := id O
  refine ct_of (ws' := tb_all) rfl rfl (Nat.le_of_ble_eq_true rfl) ?_
  refine ev_aload_n d_DateReader_takeYear_0 rfl rfl ?_
  refine ev_get (fa_DateReader_11 rfl rfl) d_DateReader_takeYear_1 hA rfl ?_
  refine ev_Vv (ci := 4) [] [] ca_DateReader_takeYear_69 d_DateReader_takeYear_4 rfl (hW) rfl (Nat.le_of_ble_eq_true rfl) (w_wtexts hW) ?_
  refine ev_aload_n d_DateReader_takeYear_7 rfl rfl ?_
  refine ev_get (fa_DateReader_17 rfl rfl) d_DateReader_takeYear_8 hA rfl ?_
  refine ev_Vv (ci := 3) [.int p] [] ca_DateReader_takeYear_73 d_DateReader_takeYear_11 rfl ((S.2 11 m11)) rfl (Nat.le_of_ble_eq_true rfl) (w_sizeOf hT S m11 p) ?_
  generalize szO (σ (11 + 3)).2.2 p = n
  refine ev_istore_n d_DateReader_takeYear_14 rfl (by decide) ?_
  refine ev_aload_n d_DateReader_takeYear_15 rfl rfl ?_
  refine ev_iconst (v := 2) d_DateReader_takeYear_16 (by decide) ?_
  refine ev_bipush (v := 9) d_DateReader_takeYear_17 (by decide) ?_
  refine ev_Vr (ci := 7) [.int 2, .int 9] [] ca_DateReader_takeYear_33 d_DateReader_takeYear_19 rfl (hA) rfl (Nat.le_of_ble_eq_true rfl) (w_takeNumber hNm hT S O 2 9) (fun v h1 z => ?_)
  obtain ⟨⟨q, rfl⟩, hd⟩ := z
  have yr : ev_E G m_DateReader_takeYear 33 [(0, .ref (X + 39)), (1, .int n), (2, .int q)] [] h1 (dtR X h) := by
    refine ev_iload_n d_DateReader_takeYear_33 rfl rfl ?_
    refine ev_iret d_DateReader_takeYear_34 rfl ?_
    exact ⟨_, rfl, ⟨_, rfl⟩, hd⟩
  have a54 : ev_E G m_DateReader_takeYear 54 [(0, .ref (X + 39)), (1, .int n), (2, .int q)] [] h1 (dtR X h) := by
    refine ev_sipush (v := 1900) d_DateReader_takeYear_54 (by decide) ?_
    refine ev_iload_n d_DateReader_takeYear_57 rfl rfl ?_
    refine ev_iadd d_DateReader_takeYear_58 ?_
    refine ev_iret d_DateReader_takeYear_59 rfl ?_
    exact ⟨_, rfl, ⟨_, rfl⟩, hd⟩
  refine ev_istore_n d_DateReader_takeYear_22 rfl (by decide) ?_
  refine ev_iload_n d_DateReader_takeYear_23 rfl rfl ?_
  refine ev_iconst (v := (-1)) d_DateReader_takeYear_24 (by decide) ?_
  refine ev_icmp_eq (tgt := 33) d_DateReader_takeYear_25 (by decide) (fun c_25 => ?_) (fun c_25 => ?_)
  · exact yr
  · refine ev_iload_n d_DateReader_takeYear_28 rfl rfl ?_
    refine ev_iconst (v := 3) d_DateReader_takeYear_29 (by decide) ?_
    refine ev_icmp_le (tgt := 35) d_DateReader_takeYear_30 (by decide) (fun c_30 => ?_) (fun c_30 => ?_)
    · refine ev_iload_n d_DateReader_takeYear_35 rfl rfl ?_
      refine ev_iconst (v := 2) d_DateReader_takeYear_36 (by decide) ?_
      refine ev_icmp_ne (tgt := 54) d_DateReader_takeYear_37 (by decide) (fun c_37 => ?_) (fun c_37 => ?_)
      · exact a54
      · refine ev_iload_n d_DateReader_takeYear_40 rfl rfl ?_
        refine ev_bipush (v := 50) d_DateReader_takeYear_41 (by decide) ?_
        refine ev_icmp_ge (tgt := 54) d_DateReader_takeYear_43 (by decide) (fun c_43 => ?_) (fun c_43 => ?_)
        · exact a54
        · refine ev_sipush (v := 2000) d_DateReader_takeYear_46 (by decide) ?_
          refine ev_iload_n d_DateReader_takeYear_49 rfl rfl ?_
          refine ev_iadd d_DateReader_takeYear_50 ?_
          refine ev_goto (tgt := 59) d_DateReader_takeYear_51 (by decide) ?_
          refine ev_iret d_DateReader_takeYear_59 rfl ?_
          exact ⟨_, rfl, ⟨_, rfl⟩, hd⟩
    · exact yr
theorem w_dtakeColon (hT : (gl_t G)[0]? = some (cI, .int)) {h : hp_T} {σ : rwT} (S : tS cI X h σ) (O : dO X h) : ct_E G m_DateReader_takeColon [.ref (X + 39)] h (dtR X h) := by
  have m16 : (16 : Nat) ∈ rws := by decide
  obtain ⟨⟨p, hA⟩, r, hW⟩ := id O
  refine ct_of (ws' := tb_all) rfl rfl (Nat.le_of_ble_eq_true rfl) ?_
  refine ev_aload_n d_DateReader_takeColon_0 rfl rfl ?_
  refine ev_get (fa_DateReader_11 rfl rfl) d_DateReader_takeColon_1 hA rfl ?_
  refine ev_Vv (ci := 4) [] [] ca_DateReader_takeColon_21 d_DateReader_takeColon_4 rfl (hW) rfl (Nat.le_of_ble_eq_true rfl) (w_wkinds hW) ?_
  refine ev_aload_n d_DateReader_takeColon_7 rfl rfl ?_
  refine ev_get (fa_DateReader_17 rfl rfl) d_DateReader_takeColon_8 hA rfl ?_
  refine ev_Vv (ci := 1) [.int p] [] ca_DateReader_takeColon_27 d_DateReader_takeColon_11 rfl ((S.1.1 _ m16).1.1) rfl (Nat.le_of_ble_eq_true rfl) (w_get hT S.1 m16 p) ?_
  refine ev_bipush (v := 58) d_DateReader_takeColon_14 (by decide) ?_
  refine ev_icmp_ne (tgt := 23) d_DateReader_takeColon_16 (by decide) (fun c_16 => ?_) (fun c_16 => ?_)
  · refine ev_iconst (v := 0) d_DateReader_takeColon_23 (by decide) ?_
    refine ev_istore_n d_DateReader_takeColon_24 rfl (by decide) ?_
    refine ev_iload_n d_DateReader_takeColon_25 rfl rfl ?_
    refine ev_if_eq (tgt := 39) d_DateReader_takeColon_26 (by decide) (fun _ => ?_) (fun z => absurd rfl z)
    refine ev_iload_n d_DateReader_takeColon_39 rfl rfl ?_
    refine ev_zret d_DateReader_takeColon_40 rfl rfl ?_
    exact ⟨_, rfl, ⟨_, rfl⟩, dtP_rf O⟩
  · refine ev_iconst (v := 1) d_DateReader_takeColon_19 (by decide) ?_
    refine ev_goto (tgt := 24) d_DateReader_takeColon_20 (by decide) ?_
    refine ev_istore_n d_DateReader_takeColon_24 rfl (by decide) ?_
    refine ev_iload_n d_DateReader_takeColon_25 rfl rfl ?_
    refine ev_if_eq (tgt := 39) d_DateReader_takeColon_26 (by decide) (fun z => absurd z (by decide)) (fun _ => ?_)
    refine ev_aload_n d_DateReader_takeColon_29 rfl rfl ?_
    refine ev_dup d_DateReader_takeColon_30 rfl ?_
    refine ev_get (fa_DateReader_17 rfl rfl) d_DateReader_takeColon_31 hA rfl ?_
    refine ev_iconst (v := 1) d_DateReader_takeColon_34 (by decide) ?_
    refine ev_iadd d_DateReader_takeColon_35 ?_
    refine ev_put (fp_DateReader_17 rfl rfl) d_DateReader_takeColon_36 hA (Nat.le_of_ble_eq_true rfl) rfl rfl ?_
    refine ev_iload_n d_DateReader_takeColon_39 rfl rfl ?_
    refine ev_zret d_DateReader_takeColon_40 rfl rfl ?_
    exact ⟨_, rfl, ⟨_, rfl⟩, _, rfl⟩
theorem w_seconds (hNm : gl_nm G) (hT : (gl_t G)[0]? = some (cI, .int)) {tm tz sm sz : Nat} (hD : gDt G tm tz sm sz) {h : hp_T} {σ : rwT} (S : tS cI X h σ) (O : dO X h) : ct_E G m_DateReader_seconds [.ref (X + 39)] h (cr (fun y h' => (∃ q : Int64, y = .long q) ∧ dtP X h h')) := by
  have m16 : (16 : Nat) ∈ rws := by decide
  obtain ⟨⟨p0, hA⟩, r, hW⟩ := id O
  have a47 : ∀ w x : Int32, ev_E G m_DateReader_seconds 47 [(0, .ref (X + 39)), (1, .int w)] [.int x, .ref (X + 39)] h (cr (fun y h' => (∃ q : Int64, y = .long q) ∧ dtP X h h')) := by
    intro w x
    refine ev_put (fp_DateReader_17 rfl rfl) d_DateReader_seconds_47 hA (Nat.le_of_ble_eq_true rfl) rfl rfl ?_
    have d0 : dtP X h (hp_up h (X + 39) (.inr (dtO X x))) := ⟨x, rfl⟩
    show ev_E G m_DateReader_seconds 50 _ _ (hp_up h (X + 39) (.inr (dtO X x))) _
    generalize hp_up h (X + 39) (.inr (dtO X x)) = h0 at d0 ⊢
    have O0 := dO_go O d0
    have S0 := dS_go S O d0
    refine ev_aload_n d_DateReader_seconds_50 rfl rfl ?_
    refine ev_iconst (v := 1) d_DateReader_seconds_51 (by decide) ?_
    refine ev_iconst (v := 2) d_DateReader_seconds_52 (by decide) ?_
    refine ev_Vr (ci := 7) [.int 1, .int 2] [] ca_DateReader_seconds_33 d_DateReader_seconds_53 rfl (O0.1.choose_spec) rfl (Nat.le_of_ble_eq_true rfl) (w_takeNumber hNm hT S0 O0 1 2) (fun v h1 z => ?_)
    obtain ⟨⟨dy, rfl⟩, d1⟩ := z
    have O1 := dO_go O0 d1
    have S1 := dS_go S0 O0 d1
    refine ev_istore_n d_DateReader_seconds_56 rfl (by decide) ?_
    refine ev_aload_n d_DateReader_seconds_57 rfl rfl ?_
    refine ev_Vr (ci := 7) [] [] ca_DateReader_seconds_37 d_DateReader_seconds_58 rfl (O1.1.choose_spec) rfl (Nat.le_of_ble_eq_true rfl) (w_takeMonth hNm hT hD S1 O1) (fun v h1 z => ?_)
    obtain ⟨⟨mo, rfl⟩, d2⟩ := z
    have O2 := dO_go O1 d2
    have S2 := dS_go S1 O1 d2
    refine ev_istore_n d_DateReader_seconds_61 rfl (by decide) ?_
    refine ev_aload_n d_DateReader_seconds_62 rfl rfl ?_
    refine ev_Vr (ci := 7) [] [] ca_DateReader_seconds_41 d_DateReader_seconds_63 rfl (O2.1.choose_spec) rfl (Nat.le_of_ble_eq_true rfl) (w_takeYear hNm hT S2 O2) (fun v h1 z => ?_)
    obtain ⟨⟨yr, rfl⟩, d3⟩ := z
    have O3 := dO_go O2 d3
    have S3 := dS_go S2 O2 d3
    refine ev_istore d_DateReader_seconds_66 (by decide) ?_
    refine ev_aload_n d_DateReader_seconds_68 rfl rfl ?_
    refine ev_iconst (v := 2) d_DateReader_seconds_69 (by decide) ?_
    refine ev_iconst (v := 2) d_DateReader_seconds_70 (by decide) ?_
    refine ev_Vr (ci := 7) [.int 2, .int 2] [] ca_DateReader_seconds_33 d_DateReader_seconds_71 rfl (O3.1.choose_spec) rfl (Nat.le_of_ble_eq_true rfl) (w_takeNumber hNm hT S3 O3 2 2) (fun v h1 z => ?_)
    obtain ⟨⟨hr, rfl⟩, d4⟩ := z
    have O4 := dO_go O3 d4
    have S4 := dS_go S3 O3 d4
    refine ev_istore d_DateReader_seconds_74 (by decide) ?_
    refine ev_aload_n d_DateReader_seconds_76 rfl rfl ?_
    refine ev_Vr (ci := 7) [] [] ca_DateReader_seconds_44 d_DateReader_seconds_77 rfl (O4.1.choose_spec) rfl (Nat.le_of_ble_eq_true rfl) (w_dtakeColon hT S4 O4) (fun v h1 z => ?_)
    obtain ⟨⟨pa, rfl⟩, d5⟩ := z
    have O5 := dO_go O4 d5
    have S5 := dS_go S4 O4 d5
    refine ev_istore d_DateReader_seconds_80 (by decide) ?_
    refine ev_aload_n d_DateReader_seconds_82 rfl rfl ?_
    refine ev_iconst (v := 2) d_DateReader_seconds_83 (by decide) ?_
    refine ev_iconst (v := 2) d_DateReader_seconds_84 (by decide) ?_
    refine ev_Vr (ci := 7) [.int 2, .int 2] [] ca_DateReader_seconds_33 d_DateReader_seconds_85 rfl (O5.1.choose_spec) rfl (Nat.le_of_ble_eq_true rfl) (w_takeNumber hNm hT S5 O5 2 2) (fun v h1 z => ?_)
    obtain ⟨⟨mi, rfl⟩, d6⟩ := z
    have O6 := dO_go O5 d6
    have S6 := dS_go S5 O5 d6
    refine ev_istore d_DateReader_seconds_88 (by decide) ?_
    refine ev_aload_n d_DateReader_seconds_90 rfl rfl ?_
    refine ev_Vr (ci := 7) [] [] ca_DateReader_seconds_44 d_DateReader_seconds_91 rfl (O6.1.choose_spec) rfl (Nat.le_of_ble_eq_true rfl) (w_dtakeColon hT S6 O6) (fun v h1 z => ?_)
    obtain ⟨⟨cl, rfl⟩, d7⟩ := z
    have O7 := dO_go O6 d7
    have S7 := dS_go S6 O6 d7
    have d07 := dtP_tr d0 (dtP_tr d1 (dtP_tr d2 (dtP_tr d3 (dtP_tr d4 (dtP_tr d5 (dtP_tr d6 d7))))))
    have a107 : ∀ (se : Int32) (h8 : hp_T), tS cI X h8 σ → dO X h8 → dtP X h h8 → ev_E G m_DateReader_seconds 107 [(0, .ref (X + 39)), (1, .int w), (2, .int dy), (3, .int mo), (4, .int yr), (5, .int hr), (6, .int pa), (7, .int mi)] [.int se] h8 (cr (fun y h' => (∃ q : Int64, y = .long q) ∧ dtP X h h')) := by
      intro se h8 S8 O8 d8
      obtain ⟨⟨p8, hA8⟩, r8, hW8⟩ := id O8
      have no : ∀ ti : Int32, ev_E G m_DateReader_seconds 166 [(0, .ref (X + 39)), (1, .int w), (2, .int dy), (3, .int mo), (4, .int yr), (5, .int hr), (6, .int pa), (7, .int mi), (8, .int se), (9, .int ti)] [] h8 (cr (fun y h' => (∃ q : Int64, y = .long q) ∧ dtP X h h')) := by
        intro ti
        refine ev_ldc2 (v := (-9223372036854775808)) (List.mem_cons_of_mem _ tw_868) d_DateReader_seconds_166 ?_
        refine ev_lret d_DateReader_seconds_169 rfl ?_
        exact ⟨_, rfl, ⟨_, rfl⟩, d8⟩
      have a149 : ∀ ti : Int32, ev_E G m_DateReader_seconds 149 [(0, .ref (X + 39)), (1, .int w), (2, .int dy), (3, .int mo), (4, .int yr), (5, .int hr), (6, .int pa), (7, .int mi), (8, .int se)] [.int ti] h8 (cr (fun y h' => (∃ q : Int64, y = .long q) ∧ dtP X h h')) := by
        intro ti
        refine ev_istore d_DateReader_seconds_149 (by decide) ?_
        refine ev_iload d_DateReader_seconds_151 rfl ?_
        refine ev_if_eq (tgt := 166) d_DateReader_seconds_153 (by decide) (fun c_153 => ?_) (fun c_153 => ?_)
        · exact no ti
        · refine ev_iload d_DateReader_seconds_156 rfl ?_
          refine ev_iload_n d_DateReader_seconds_158 rfl rfl ?_
          refine ev_iload_n d_DateReader_seconds_159 rfl rfl ?_
          refine ev_Sr [.int yr, .int mo, .int dy] [] ca_DateReader_seconds_52 d_DateReader_seconds_160 rfl (Nat.le_of_ble_eq_true rfl) (w_isDay hD yr mo dy) (fun v h1 z => ?_)
          obtain ⟨⟨q, rfl⟩, z⟩ := z
          obtain rfl := z.symm
          refine ev_if_ne (tgt := 170) d_DateReader_seconds_163 (by decide) (fun c_163 => ?_) (fun c_163 => ?_)
          · refine ev_ldc2 (v := 24) (List.mem_cons_of_mem _ tw_869) d_DateReader_seconds_170 ?_
            refine ev_iload d_DateReader_seconds_173 rfl ?_
            refine ev_iload_n d_DateReader_seconds_175 rfl rfl ?_
            refine ev_iload_n d_DateReader_seconds_176 rfl rfl ?_
            refine ev_Sr [.int yr, .int mo, .int dy] [.long 24] ca_DateReader_seconds_60 d_DateReader_seconds_177 rfl (Nat.le_of_ble_eq_true rfl) (w_since hD yr mo dy) (fun v h1 z => ?_)
            obtain ⟨⟨q2, rfl⟩, z⟩ := z
            obtain rfl := z.symm
            refine ev_i2l d_DateReader_seconds_180 ?_
            refine ev_lmul d_DateReader_seconds_181 ?_
            refine ev_iload d_DateReader_seconds_182 rfl ?_
            refine ev_i2l d_DateReader_seconds_184 ?_
            refine ev_ladd d_DateReader_seconds_185 ?_
            refine ev_lstore d_DateReader_seconds_186 (by decide) ?_
            refine ev_ldc2 (v := 60) (List.mem_cons_of_mem _ tw_876) d_DateReader_seconds_188 ?_
            refine ev_ldc2 (v := 60) (List.mem_cons_of_mem _ tw_876) d_DateReader_seconds_191 ?_
            refine ev_lload d_DateReader_seconds_194 rfl ?_
            refine ev_lmul d_DateReader_seconds_196 ?_
            refine ev_iload d_DateReader_seconds_197 rfl ?_
            refine ev_i2l d_DateReader_seconds_199 ?_
            refine ev_ladd d_DateReader_seconds_200 ?_
            refine ev_lmul d_DateReader_seconds_201 ?_
            refine ev_iload d_DateReader_seconds_202 rfl ?_
            refine ev_i2l d_DateReader_seconds_204 ?_
            refine ev_ladd d_DateReader_seconds_205 ?_
            refine ev_aload_n d_DateReader_seconds_206 rfl rfl ?_
            refine ev_Vr (ci := 7) [] [.long _] ca_DateReader_seconds_66 d_DateReader_seconds_207 rfl (hA8) rfl (Nat.le_of_ble_eq_true rfl) (w_zoneSeconds hNm hT hD S8 O8) (fun v h1 z => ?_)
            obtain ⟨⟨q3, rfl⟩, z⟩ := z
            obtain rfl := z.symm
            refine ev_i2l d_DateReader_seconds_210 ?_
            refine ev_lsub d_DateReader_seconds_211 ?_
            refine ev_lret d_DateReader_seconds_212 rfl ?_
            exact ⟨_, rfl, ⟨_, rfl⟩, d8⟩
          · exact no ti
      have n148 : ev_E G m_DateReader_seconds 148 [(0, .ref (X + 39)), (1, .int w), (2, .int dy), (3, .int mo), (4, .int yr), (5, .int hr), (6, .int pa), (7, .int mi), (8, .int se)] [] h8 (cr (fun y h' => (∃ q : Int64, y = .long q) ∧ dtP X h h')) := by
        refine ev_iconst (v := 0) d_DateReader_seconds_148 (by decide) ?_
        exact a149 0
      refine ev_istore d_DateReader_seconds_107 (by decide) ?_
      refine ev_iload d_DateReader_seconds_109 rfl ?_
      refine ev_if_eq (tgt := 148) d_DateReader_seconds_111 (by decide) (fun c_111 => ?_) (fun c_111 => ?_)
      · exact n148
      · refine ev_iload d_DateReader_seconds_114 rfl ?_
        refine ev_bipush (v := 24) d_DateReader_seconds_116 (by decide) ?_
        refine ev_Sr [.int hr, .int 24] [] ca_DateReader_seconds_48 d_DateReader_seconds_118 rfl (Nat.le_of_ble_eq_true rfl) (w_isBelow hr 24) (fun v h1 z => ?_)
        obtain ⟨⟨q, rfl⟩, z⟩ := z
        obtain rfl := z.symm
        refine ev_if_eq (tgt := 148) d_DateReader_seconds_121 (by decide) (fun c_121 => ?_) (fun c_121 => ?_)
        · exact n148
        · refine ev_iload d_DateReader_seconds_124 rfl ?_
          refine ev_bipush (v := 60) d_DateReader_seconds_126 (by decide) ?_
          refine ev_Sr [.int mi, .int 60] [] ca_DateReader_seconds_48 d_DateReader_seconds_128 rfl (Nat.le_of_ble_eq_true rfl) (w_isBelow mi 60) (fun v h1 z => ?_)
          obtain ⟨⟨q, rfl⟩, z⟩ := z
          obtain rfl := z.symm
          refine ev_if_eq (tgt := 148) d_DateReader_seconds_131 (by decide) (fun c_131 => ?_) (fun c_131 => ?_)
          · exact n148
          · refine ev_iload d_DateReader_seconds_134 rfl ?_
            refine ev_bipush (v := 61) d_DateReader_seconds_136 (by decide) ?_
            refine ev_Sr [.int se, .int 61] [] ca_DateReader_seconds_48 d_DateReader_seconds_138 rfl (Nat.le_of_ble_eq_true rfl) (w_isBelow se 61) (fun v h1 z => ?_)
            obtain ⟨⟨q, rfl⟩, z⟩ := z
            obtain rfl := z.symm
            refine ev_if_eq (tgt := 148) d_DateReader_seconds_141 (by decide) (fun c_141 => ?_) (fun c_141 => ?_)
            · exact n148
            · refine ev_iconst (v := 1) d_DateReader_seconds_144 (by decide) ?_
              refine ev_goto (tgt := 149) d_DateReader_seconds_145 (by decide) ?_
              exact a149 1
    refine ev_if_eq (tgt := 106) d_DateReader_seconds_94 (by decide) (fun c_94 => ?_) (fun c_94 => ?_)
    · refine ev_iconst (v := 0) d_DateReader_seconds_106 (by decide) ?_
      exact a107 0 _ S7 O7 d07
    · refine ev_aload_n d_DateReader_seconds_97 rfl rfl ?_
      refine ev_iconst (v := 2) d_DateReader_seconds_98 (by decide) ?_
      refine ev_iconst (v := 2) d_DateReader_seconds_99 (by decide) ?_
      refine ev_Vr (ci := 7) [.int 2, .int 2] [] ca_DateReader_seconds_33 d_DateReader_seconds_100 rfl (O7.1.choose_spec) rfl (Nat.le_of_ble_eq_true rfl) (w_takeNumber hNm hT S7 O7 2 2) (fun v h1 z => ?_)
      obtain ⟨⟨q, rfl⟩, d8⟩ := z
      refine ev_goto (tgt := 107) d_DateReader_seconds_103 (by decide) ?_
      exact a107 q _ (dS_go S7 O7 d8) (dO_go O7 d8) (dtP_tr d07 d8)
  have a36 : ∀ w : Int32, ev_E G m_DateReader_seconds 36 [(0, .ref (X + 39))] [.int w] h (cr (fun y h' => (∃ q : Int64, y = .long q) ∧ dtP X h h')) := by
    intro w
    refine ev_istore_n d_DateReader_seconds_36 rfl (by decide) ?_
    refine ev_aload_n d_DateReader_seconds_37 rfl rfl ?_
    refine ev_iload_n d_DateReader_seconds_38 rfl rfl ?_
    refine ev_if_eq (tgt := 46) d_DateReader_seconds_39 (by decide) (fun c_39 => ?_) (fun c_39 => ?_)
    · refine ev_iconst (v := 0) d_DateReader_seconds_46 (by decide) ?_
      exact a47 w 0
    · refine ev_iconst (v := 2) d_DateReader_seconds_42 (by decide) ?_
      refine ev_goto (tgt := 47) d_DateReader_seconds_43 (by decide) ?_
      exact a47 w 2
  have n35 : ev_E G m_DateReader_seconds 35 [(0, .ref (X + 39))] [] h (cr (fun y h' => (∃ q : Int64, y = .long q) ∧ dtP X h h')) := by
    refine ev_iconst (v := 0) d_DateReader_seconds_35 (by decide) ?_
    exact a36 0
  refine ct_of (ws' := tb_all) rfl rfl (Nat.le_of_ble_eq_true rfl) ?_
  refine ev_aload_n d_DateReader_seconds_0 rfl rfl ?_
  refine ev_get (fa_DateReader_11 rfl rfl) d_DateReader_seconds_1 hA rfl ?_
  refine ev_Vv (ci := 4) [] [] ca_DateReader_seconds_21 d_DateReader_seconds_4 rfl (hW) rfl (Nat.le_of_ble_eq_true rfl) (w_wkinds hW) ?_
  refine ev_iconst (v := 0) d_DateReader_seconds_7 (by decide) ?_
  refine ev_Vv (ci := 1) [.int 0] [] ca_DateReader_seconds_27 d_DateReader_seconds_8 rfl ((S.1.1 _ m16).1.1) rfl (Nat.le_of_ble_eq_true rfl) (w_get hT S.1 m16 0) ?_
  refine ev_iconst (v := 1) d_DateReader_seconds_11 (by decide) ?_
  refine ev_icmp_ne (tgt := 35) d_DateReader_seconds_12 (by decide) (fun c_12 => ?_) (fun c_12 => ?_)
  · exact n35
  · refine ev_aload_n d_DateReader_seconds_15 rfl rfl ?_
    refine ev_get (fa_DateReader_11 rfl rfl) d_DateReader_seconds_16 hA rfl ?_
    refine ev_Vv (ci := 4) [] [] ca_DateReader_seconds_21 d_DateReader_seconds_19 rfl (hW) rfl (Nat.le_of_ble_eq_true rfl) (w_wkinds hW) ?_
    refine ev_iconst (v := 1) d_DateReader_seconds_22 (by decide) ?_
    refine ev_Vv (ci := 1) [.int 1] [] ca_DateReader_seconds_27 d_DateReader_seconds_23 rfl ((S.1.1 _ m16).1.1) rfl (Nat.le_of_ble_eq_true rfl) (w_get hT S.1 m16 1) ?_
    refine ev_bipush (v := 44) d_DateReader_seconds_26 (by decide) ?_
    refine ev_icmp_ne (tgt := 35) d_DateReader_seconds_28 (by decide) (fun c_28 => ?_) (fun c_28 => ?_)
    · exact n35
    · refine ev_iconst (v := 1) d_DateReader_seconds_31 (by decide) ?_
      refine ev_goto (tgt := 36) d_DateReader_seconds_32 (by decide) ?_
      exact a36 1
end DAT4
