/-! dates: the class's reader, strong -/
def dW (σ : rwT) (N : Wds) : Prop := wdH σ (N.map (fun w => (cK w, w.2.2))) [] ∧ (∀ w ∈ N, wfW w) ∧ N.length < 2 ^ 30 ∧ wdB (N.map (fun w => (cK w, w.2.2))) < 2 ^ 30
def tx (N : Wds) (k : Nat) : List Int32 := match N[k]? with
  | none => []
  | some w => w.2.2
def szW (N : Wds) (k : Nat) : Int32 := match N[k]? with
  | none => -1
  | some w => nI w.2.2.length
def kdW (N : Wds) (k : Nat) : Int32 := match N[k]? with
  | none => -1
  | some w => cK w
def dK (X : Nat) (h : hp_T) (k : Nat) : Prop := h.2.2 (X + 39) = some (.inr (dtO X (nI k))) ∧ ∃ r : List Value, h.2.2 (X + 10) = some (.inr (4, .ref (X + 11) :: .ref (X + 16) :: r))
section DCLS
variable {G : gl_G} {cI : ClassId} {X : Nat}
theorem dW_k {σ : rwT} {N : Wds} (H : dW σ N) {k : Nat} (hk : k < 2 ^ 30) : rg (σ 16).2.2 (nI k) = kdW N k := by
  rw [H.1.2, rg_nat (by omega), List.getD_eq_getElem?_getD, List.map_map, List.getElem?_map]
  unfold kdW
  cases N[k]? <;> rfl
theorem dW_L (N : Wds) (k : Nat) : ((N.map (fun w => (cK w, w.2.2))).map (fun w => w.2))[k]? = (N[k]?).map (fun w => w.2.2) := by
  rw [List.map_map, List.getElem?_map]
  rfl
theorem dW_s {σ : rwT} {N : Wds} (H : dW σ N) {k : Nat} (hk : k < 2 ^ 30) : szO (σ (11 + 3)).2.2 (nI k) = szW N k := by
  have hl : ((N.map (fun w => (cK w, w.2.2))).map (fun w => w.2)).length < 2 ^ 30 := by rw [List.length_map, List.length_map]; exact H.2.2.1
  have e := dW_L N k
  rw [H.1.1.2]
  unfold szW
  cases hq : N[k]? with
  | none =>
    refine szT_no hl (Or.inr (nI_le ?_ (by omega)))
    rw [List.length_map, List.length_map]
    exact List.getElem?_eq_none_iff.mp hq
  | some w =>
    rw [hq] at e
    exact szT hl e
theorem dW_b {σ : rwT} {N : Wds} (H : dW σ N) {k : Nat} (hk : k < 2 ^ 30) (i : Int32) : btO (σ (11 + 1)).2.2 (σ (11 + 3)).2.2 (nI k) i = rg (tx N k) i := by
  have hl : ((N.map (fun w => (cK w, w.2.2))).map (fun w => w.2)).length < 2 ^ 30 := by rw [List.length_map, List.length_map]; exact H.2.2.1
  have e := dW_L N k
  rw [H.1.1.1, H.1.1.2]
  unfold tx
  cases hq : N[k]? with
  | none =>
    rw [btT_no hl (Or.inr (nI_le (by rw [List.length_map, List.length_map]; exact List.getElem?_eq_none_iff.mp hq) (by omega)))]
    unfold rg
    split
    · rfl
    · rfl
  | some w =>
    rw [hq] at e
    exact btT hl H.2.2.2 e i
theorem tx_len {σ : rwT} {N : Wds} (H : dW σ N) (k : Nat) : (tx N k).length < 2 ^ 30 := by
  have h4 := H.2.2.2
  unfold tx
  cases hq : N[k]? with
  | none => decide
  | some w =>
    have h1 : w.2.2.length ≤ wdB (N.map (fun w => (cK w, w.2.2))) := by
      unfold wdB
      rw [List.map_map]
      exact (List.sublist_flatten_of_mem (List.mem_map_of_mem (f := fun w : Wd => w.2.2) (List.mem_of_getElem? hq))).length_le
    exact Nat.lt_of_le_of_lt h1 h4
theorem drop_rg {l : List Int32} {t i : Nat} (hi : i < t) (ht : t ≤ l.length) (hl : l.length < 2 ^ 31) : (l.take t).drop i = rg l (nI i) :: (l.take t).drop (i + 1) := by
  rw [List.drop_eq_getElem_cons (by rw [List.length_take]; omega), List.getElem_take]
  congr 1
  have h1 := rg_in (v := l) (i := i) (by omega) hl
  rw [List.getElem?_eq_getElem (by omega)] at h1
  exact Option.some.inj h1
theorem ly_digits (hNm : gl_nm G) (hT : (gl_t G)[0]? = some (cI, .int)) {h : hp_T} {σ : rwT} (S : tS cI X h σ) {N : Wds} (H : dW σ N) {k : Nat} (hk : k < 2 ^ 30) (O : dK X h k) {f : Int32} {t : Nat} (ht : t ≤ (tx N k).length) : ∀ (d i x : Nat), i + d = t → ev_E G m_DateReader_digits 5 [(0, .ref (X + 39)), (1, .int f), (2, .int (nI t)), (3, .int (nI x)), (4, .int (nI i))] [] h (cv (.int (dgG (((tx N k).take t).drop i) x)) h) := by
  have m11 : (11 : Nat) ∈ txs := by decide
  have hl := tx_len H k
  obtain ⟨hA, r, hW⟩ := id O
  intro d
  induction d with
  | zero =>
    intro i x hi
    refine ev_iload d_DateReader_digits_5 rfl ?_
    refine ev_iload_n d_DateReader_digits_7 rfl rfl ?_
    refine ev_icmp_ge (tgt := 54) d_DateReader_digits_8 (by decide) (fun _ => ?_) (fun z => absurd (nI_le (by omega) (by omega)) z)
    refine ev_iload_n d_DateReader_digits_54 rfl rfl ?_
    refine ev_iret d_DateReader_digits_55 rfl ?_
    rw [List.drop_eq_nil_of_le (by rw [List.length_take]; omega)]
    exact ⟨rfl, rfl⟩
  | succ d ih =>
    intro i x hi
    refine ev_iload d_DateReader_digits_5 rfl ?_
    refine ev_iload_n d_DateReader_digits_7 rfl rfl ?_
    refine ev_icmp_ge (tgt := 54) d_DateReader_digits_8 (by decide) (fun z => absurd z (nI_ge (by omega) (by omega))) (fun _ => ?_)
    refine ev_aload_n d_DateReader_digits_11 rfl rfl ?_
    refine ev_get (fa_DateReader_11 rfl rfl) d_DateReader_digits_12 hA rfl ?_
    refine ev_Vv (ci := 4) [] [] ca_DateReader_digits_69 d_DateReader_digits_15 rfl (hW) rfl (Nat.le_of_ble_eq_true rfl) (w_wtexts hW) ?_
    refine ev_aload_n d_DateReader_digits_18 rfl rfl ?_
    refine ev_get (fa_DateReader_17 rfl rfl) d_DateReader_digits_19 hA rfl ?_
    refine ev_iload d_DateReader_digits_22 rfl ?_
    refine ev_Vv (ci := 3) [.int (nI k), .int (nI i)] [] ca_DateReader_digits_87 d_DateReader_digits_24 rfl ((S.2 11 m11)) rfl (Nat.le_of_ble_eq_true rfl) (w_byteOf hT S m11 (nI k) (nI i)) ?_
    rw [dW_b H hk, drop_rg (show i < t by omega) ht (by omega)]
    generalize rg (tx N k) (nI i) = c
    refine ev_Nv hNm [.int c] [] cn_DateReader_digits_90 d_DateReader_digits_27 rfl (Nat.le_of_ble_eq_true rfl) (w_digit c) ?_
    refine ev_istore d_DateReader_digits_30 (by decide) ?_
    refine ev_iload d_DateReader_digits_32 rfl ?_
    refine ev_iconst (v := (-1)) d_DateReader_digits_34 (by decide) ?_
    by_cases hd : sp_digit c = 1
    · obtain ⟨-, -, h3, h4⟩ := dig_v hd
      refine ev_icmp_ne (tgt := 40) d_DateReader_digits_35 (by decide) (fun _ => ?_) (fun z => absurd z h4)
      rw [h3]
      refine ev_bipush (v := 10) d_DateReader_digits_40 (by decide) ?_
      refine ev_iload_n d_DateReader_digits_42 rfl rfl ?_
      refine ev_imul d_DateReader_digits_43 ?_
      refine ev_iload d_DateReader_digits_44 rfl ?_
      refine ev_iadd d_DateReader_digits_46 ?_
      refine ev_istore_n d_DateReader_digits_47 rfl (by decide) ?_
      refine ev_iinc d_DateReader_digits_48 rfl (by decide) ?_
      refine ev_goto (tgt := 5) d_DateReader_digits_51 (by decide) ?_
      rw [dgG, if_pos hd]
      have e : (10 : Int32) * nI x + nI (dv c) = nI (10 * x + dv c) := by
        unfold nI
        rw [Int32.ofNat_add, Int32.ofNat_mul]
        rfl
      refine ev_as [(0, .ref (X + 39)), (1, .int f), (2, .int (nI t)), (3, .int (nI (10 * x + dv c))), (4, .int (nI (i + 1)))] ⟨rfl, rfl, rfl, ?_, ?_, trivial⟩ (ih (i + 1) (10 * x + dv c) (by omega))
      · show some (Value.int (10 * nI x + nI (dv c))) = _
        rw [e]
      · show some (Value.int (nI i + 1)) = _
        rw [nI_1]
    · have h3 := dig_n hd
      refine ev_icmp_ne (tgt := 40) d_DateReader_digits_35 (by decide) (fun z => absurd h3 z) (fun _ => ?_)
      refine ev_iconst (v := (-1)) d_DateReader_digits_38 (by decide) ?_
      refine ev_iret d_DateReader_digits_39 rfl ?_
      rw [dgG, if_neg hd]
      exact ⟨rfl, rfl⟩
theorem y_digits (hNm : gl_nm G) (hT : (gl_t G)[0]? = some (cI, .int)) {h : hp_T} {σ : rwT} (S : tS cI X h σ) {N : Wds} (H : dW σ N) {k : Nat} (hk : k < 2 ^ 30) (O : dK X h k) {f t : Nat} (hf : f ≤ t) (ht : t ≤ (tx N k).length) : ct_E G m_DateReader_digits [.ref (X + 39), .int (nI f), .int (nI t)] h (cv (.int (dgG (((tx N k).take t).drop f) 0)) h) := by
  refine ct_of (ws' := tb_all) rfl rfl (Nat.le_of_ble_eq_true rfl) ?_
  refine ev_iconst (v := 0) d_DateReader_digits_0 (by decide) ?_
  refine ev_istore_n d_DateReader_digits_1 rfl (by decide) ?_
  refine ev_iload_n d_DateReader_digits_2 rfl rfl ?_
  refine ev_istore d_DateReader_digits_3 (by decide) ?_
  exact ly_digits hNm hT S H hk O ht (t - f) f 0 (by omega)
theorem y_isLetter (hNm : gl_nm G) (hT : (gl_t G)[0]? = some (cI, .int)) {h : hp_T} {σ : rwT} (S : tS cI X h σ) {N : Wds} (H : dW σ N) {k : Nat} (hk : k < 2 ^ 30) (O : dK X h k) (i c : Int32) : ct_E G m_DateReader_isLetter [.ref (X + 39), .int i, .int c] h (cv (.int (bI (decide (sp_small (rg (tx N k) i) = c)))) h) := by
  have m11 : (11 : Nat) ∈ txs := by decide
  obtain ⟨hA, r, hW⟩ := id O
  refine ct_of (ws' := tb_all) rfl rfl (Nat.le_of_ble_eq_true rfl) ?_
  refine ev_aload_n d_DateReader_isLetter_0 rfl rfl ?_
  refine ev_get (fa_DateReader_11 rfl rfl) d_DateReader_isLetter_1 hA rfl ?_
  refine ev_Vv (ci := 4) [] [] ca_DateReader_isLetter_69 d_DateReader_isLetter_4 rfl (hW) rfl (Nat.le_of_ble_eq_true rfl) (w_wtexts hW) ?_
  refine ev_aload_n d_DateReader_isLetter_7 rfl rfl ?_
  refine ev_get (fa_DateReader_17 rfl rfl) d_DateReader_isLetter_8 hA rfl ?_
  refine ev_iload_n d_DateReader_isLetter_11 rfl rfl ?_
  refine ev_Vv (ci := 3) [.int (nI k), .int i] [] ca_DateReader_isLetter_87 d_DateReader_isLetter_12 rfl ((S.2 11 m11)) rfl (Nat.le_of_ble_eq_true rfl) (w_byteOf hT S m11 (nI k) i) ?_
  rw [dW_b H hk]
  refine ev_Nv hNm [.int _] [] cn_DateReader_isLetter_105 d_DateReader_isLetter_15 rfl (Nat.le_of_ble_eq_true rfl) (w_small _) ?_
  refine ev_iload_n d_DateReader_isLetter_18 rfl rfl ?_
  refine ev_icmp_ne (tgt := 26) d_DateReader_isLetter_19 (by decide) (fun c_19 => ?_) (fun c_19 => ?_)
  · refine ev_iconst (v := 0) d_DateReader_isLetter_26 (by decide) ?_
    refine ev_zret d_DateReader_isLetter_27 rfl rfl ?_
    rw [decide_eq_false c_19]
    exact ⟨rfl, rfl⟩
  · refine ev_iconst (v := 1) d_DateReader_isLetter_22 (by decide) ?_
    refine ev_goto (tgt := 27) d_DateReader_isLetter_23 (by decide) ?_
    refine ev_zret d_DateReader_isLetter_27 rfl rfl ?_
    rw [decide_eq_true c_19]
    exact ⟨rfl, rfl⟩
theorem drop3 {cs : List Int32} {i : Nat} (h : i + 2 < cs.length) : cs.drop i = cs.getD i 0 :: cs.getD (i + 1) 0 :: cs.getD (i + 2) 0 :: cs.drop (i + 3) := by
  have g : ∀ k (hk : k < cs.length), cs.getD k 0 = cs[k] := fun k hk => by
    rw [List.getD_eq_getElem?_getD, List.getElem?_eq_getElem hk]
    rfl
  have e1 := List.drop_eq_getElem_cons (show i < cs.length by omega)
  have e2 := List.drop_eq_getElem_cons (show i + 1 < cs.length by omega)
  have e3 := List.drop_eq_getElem_cons (show i + 2 < cs.length by omega)
  rw [g i (by omega), g (i + 1) (by omega), g (i + 2) (by omega)]
  exact e1.trans (congrArg (cs[i] :: ·) (e2.trans (congrArg (cs[i + 1] :: ·) e3)))
theorem fst3_end {l t : List Int32} {j : Nat} (h : t.length < 3) : fst3 l t j = -1 := by
  match t, h with
  | [], _ => rfl
  | [_], _ => rfl
  | [_, _], _ => rfl
theorem div3 : ∀ j, j < 13 → nI (3 * j) / 3 = nI j := by decide +kernel
theorem ly_threeLetters (hNm : gl_nm G) (hT : (gl_t G)[0]? = some (cI, .int)) {h : hp_T} {σ : rwT} (S : tS cI X h σ) {N : Wds} (H : dW σ N) {k : Nat} (hk : k < 2 ^ 30) (O : dK X h k) {str : Nat} {cs : List Int32} (hs : gSl G str cs) (hc : cs.length ≤ 36) : ∀ (d j : Nat), cs.length ≤ 3 * j + d → j ≤ 13 → ev_E G m_DateReader_threeLetters 2 [(0, .ref (X + 39)), (1, .ref str), (2, .int (nI (3 * j)))] [] h (cv (.int (fst3 (tx N k) (cs.drop (3 * j)) j)) h) := by
  obtain ⟨hA, r, hW⟩ := id O
  intro d
  induction d using Nat.strongRecOn with
  | ind d ih =>
    intro j hd hj
    refine ev_iload_n d_DateReader_threeLetters_2 rfl rfl ?_
    refine ev_iconst (v := 2) d_DateReader_threeLetters_3 (by decide) ?_
    refine ev_iadd d_DateReader_threeLetters_4 ?_
    refine ev_aload_n d_DateReader_threeLetters_5 rfl rfl ?_
    rw [show nI (3 * j) + 2 = nI (3 * j + 2) from nI_add (3 * j) 2]
    refine ev_Bv [] [.int (nI (3 * j + 2))] ca_DateReader_threeLetters_93 d_DateReader_threeLetters_6 (hs.1) rfl (Nat.le_of_ble_eq_true rfl) (hs.2.1 h) ?_
    rcases Nat.lt_or_ge (3 * j + 2) cs.length with q | q
    · refine ev_icmp_ge (tgt := 65) d_DateReader_threeLetters_9 (by decide) (fun z => absurd z (nI_ge q (by omega))) (fun _ => ?_)
      rw [drop3 q, fst3]
      have on : th3 (tx N k) (cs.getD (3 * j) 0) (cs.getD (3 * j + 1) 0) (cs.getD (3 * j + 2) 0) = false → ev_E G m_DateReader_threeLetters 59 [(0, .ref (X + 39)), (1, .ref str), (2, .int (nI (3 * j)))] [] h (cv (.int (if th3 (tx N k) (cs.getD (3 * j) 0) (cs.getD (3 * j + 1) 0) (cs.getD (3 * j + 2) 0) = true then nI j else fst3 (tx N k) (cs.drop (3 * j + 3)) (j + 1))) h) := by
        intro ht
        refine ev_iinc d_DateReader_threeLetters_59 rfl (by decide) ?_
        refine ev_goto (tgt := 2) d_DateReader_threeLetters_62 (by decide) ?_
        rw [show nI (3 * j) + Int32.ofInt 3 = nI (3 * (j + 1)) from nI_add (3 * j) 3, if_neg (by rw [ht]; decide)]
        exact ih (d - 3) (by omega) (j + 1) (by omega) (by omega)
      refine ev_aload_n d_DateReader_threeLetters_12 rfl rfl ?_
      refine ev_iconst (v := 0) d_DateReader_threeLetters_13 (by decide) ?_
      refine ev_aload_n d_DateReader_threeLetters_14 rfl rfl ?_
      refine ev_iload_n d_DateReader_threeLetters_15 rfl rfl ?_
      refine ev_Bv [.int (nI (3 * j))] [.int 0, .ref (X + 39)] ca_DateReader_threeLetters_98 d_DateReader_threeLetters_16 (hs.1) rfl (Nat.le_of_ble_eq_true rfl) (hs.2.2 h (3 * j) (by omega)) ?_
      refine ev_Vv (ci := 7) [.int 0, .int _] [] ca_DateReader_threeLetters_102 d_DateReader_threeLetters_19 rfl (hA) rfl (Nat.le_of_ble_eq_true rfl) (y_isLetter hNm hT S H hk O 0 _) ?_
      by_cases p1 : sp_small (rg (tx N k) 0) = cs.getD (3 * j) 0
      rotate_left
      · rw [decide_eq_false p1]
        refine ev_if_eq (tgt := 59) d_DateReader_threeLetters_22 (by decide) (fun _ => ?_) (fun z => absurd rfl z)
        exact on (decide_eq_false (fun z => p1 z.1))
      rw [decide_eq_true p1]
      refine ev_if_eq (tgt := 59) d_DateReader_threeLetters_22 (by decide) (fun z => absurd z (by decide)) (fun _ => ?_)
      refine ev_aload_n d_DateReader_threeLetters_25 rfl rfl ?_
      refine ev_iconst (v := 1) d_DateReader_threeLetters_26 (by decide) ?_
      refine ev_aload_n d_DateReader_threeLetters_27 rfl rfl ?_
      refine ev_iload_n d_DateReader_threeLetters_28 rfl rfl ?_
      refine ev_iconst (v := 1) d_DateReader_threeLetters_29 (by decide) ?_
      refine ev_iadd d_DateReader_threeLetters_30 ?_
      rw [show nI (3 * j) + 1 = nI (3 * j + 1) from nI_1 (3 * j)]
      refine ev_Bv [.int (nI (3 * j + 1))] [.int 1, .ref (X + 39)] ca_DateReader_threeLetters_98 d_DateReader_threeLetters_31 (hs.1) rfl (Nat.le_of_ble_eq_true rfl) (hs.2.2 h (3 * j + 1) (by omega)) ?_
      refine ev_Vv (ci := 7) [.int 1, .int _] [] ca_DateReader_threeLetters_102 d_DateReader_threeLetters_34 rfl (hA) rfl (Nat.le_of_ble_eq_true rfl) (y_isLetter hNm hT S H hk O 1 _) ?_
      by_cases p2 : sp_small (rg (tx N k) 1) = cs.getD (3 * j + 1) 0
      rotate_left
      · rw [decide_eq_false p2]
        refine ev_if_eq (tgt := 59) d_DateReader_threeLetters_37 (by decide) (fun _ => ?_) (fun z => absurd rfl z)
        exact on (decide_eq_false (fun z => p2 z.2.1))
      rw [decide_eq_true p2]
      refine ev_if_eq (tgt := 59) d_DateReader_threeLetters_37 (by decide) (fun z => absurd z (by decide)) (fun _ => ?_)
      refine ev_aload_n d_DateReader_threeLetters_40 rfl rfl ?_
      refine ev_iconst (v := 2) d_DateReader_threeLetters_41 (by decide) ?_
      refine ev_aload_n d_DateReader_threeLetters_42 rfl rfl ?_
      refine ev_iload_n d_DateReader_threeLetters_43 rfl rfl ?_
      refine ev_iconst (v := 2) d_DateReader_threeLetters_44 (by decide) ?_
      refine ev_iadd d_DateReader_threeLetters_45 ?_
      rw [show nI (3 * j) + 2 = nI (3 * j + 2) from nI_add (3 * j) 2]
      refine ev_Bv [.int (nI (3 * j + 2))] [.int 2, .ref (X + 39)] ca_DateReader_threeLetters_98 d_DateReader_threeLetters_46 (hs.1) rfl (Nat.le_of_ble_eq_true rfl) (hs.2.2 h (3 * j + 2) (by omega)) ?_
      refine ev_Vv (ci := 7) [.int 2, .int _] [] ca_DateReader_threeLetters_102 d_DateReader_threeLetters_49 rfl (hA) rfl (Nat.le_of_ble_eq_true rfl) (y_isLetter hNm hT S H hk O 2 _) ?_
      by_cases p3 : sp_small (rg (tx N k) 2) = cs.getD (3 * j + 2) 0
      rotate_left
      · rw [decide_eq_false p3]
        refine ev_if_eq (tgt := 59) d_DateReader_threeLetters_52 (by decide) (fun _ => ?_) (fun z => absurd rfl z)
        exact on (decide_eq_false (fun z => p3 z.2.2))
      rw [decide_eq_true p3]
      refine ev_if_eq (tgt := 59) d_DateReader_threeLetters_52 (by decide) (fun z => absurd z (by decide)) (fun _ => ?_)
      rw [if_pos (show th3 (tx N k) (cs.getD (3 * j) 0) (cs.getD (3 * j + 1) 0) (cs.getD (3 * j + 2) 0) = true from decide_eq_true ⟨p1, p2, p3⟩)]
      refine ev_iload_n d_DateReader_threeLetters_55 rfl rfl ?_
      refine ev_iconst (v := 3) d_DateReader_threeLetters_56 (by decide) ?_
      refine ev_idiv d_DateReader_threeLetters_57 (by decide) ?_
      refine ev_iret d_DateReader_threeLetters_58 rfl ?_
      rw [show nI (3 * j) / 3 = nI j from div3 j (by omega)]
      exact ⟨rfl, rfl⟩
    · refine ev_icmp_ge (tgt := 65) d_DateReader_threeLetters_9 (by decide) (fun _ => ?_) (fun z => absurd (nI_le q (by omega)) z)
      refine ev_iconst (v := (-1)) d_DateReader_threeLetters_65 (by decide) ?_
      refine ev_iret d_DateReader_threeLetters_66 rfl ?_
      rw [fst3_end (by rw [List.length_drop]; omega)]
      exact ⟨rfl, rfl⟩
theorem y_threeLetters (hNm : gl_nm G) (hT : (gl_t G)[0]? = some (cI, .int)) {h : hp_T} {σ : rwT} (S : tS cI X h σ) {N : Wds} (H : dW σ N) {k : Nat} (hk : k < 2 ^ 30) (O : dK X h k) {str : Nat} {cs : List Int32} (hs : gSl G str cs) (hc : cs.length ≤ 36) : ct_E G m_DateReader_threeLetters [.ref (X + 39), .ref str] h (cv (.int (fst3 (tx N k) cs 0)) h) := by
  refine ct_of (ws' := tb_all) rfl rfl (Nat.le_of_ble_eq_true rfl) ?_
  refine ev_iconst (v := 0) d_DateReader_threeLetters_0 (by decide) ?_
  refine ev_istore_n d_DateReader_threeLetters_1 rfl (by decide) ?_
  exact ly_threeLetters hNm hT S H hk O hs hc cs.length 0 (by omega) (by omega)
theorem y_isBelow {h : hp_T} (a b : Int32) : ct_E G m_DateReader_isBelow [.int a, .int b] h (cv (.int (bI (below a b))) h) := by
  refine ct_of (ws' := tb_all) rfl rfl (Nat.le_of_ble_eq_true rfl) ?_
  refine ev_iload_n d_DateReader_isBelow_0 rfl rfl ?_
  refine ev_if_lt (tgt := 13) d_DateReader_isBelow_1 (by decide) (fun c_1 => ?_) (fun c_1 => ?_)
  · refine ev_iconst (v := 0) d_DateReader_isBelow_13 (by decide) ?_
    refine ev_zret d_DateReader_isBelow_14 rfl rfl ?_
    rw [show below a b = false from decide_eq_false (fun z => Int32.not_lt.mpr z.1 c_1)]
    exact ⟨rfl, rfl⟩
  · refine ev_iload_n d_DateReader_isBelow_4 rfl rfl ?_
    refine ev_iload_n d_DateReader_isBelow_5 rfl rfl ?_
    refine ev_icmp_ge (tgt := 13) d_DateReader_isBelow_6 (by decide) (fun c_6 => ?_) (fun c_6 => ?_)
    · refine ev_iconst (v := 0) d_DateReader_isBelow_13 (by decide) ?_
      refine ev_zret d_DateReader_isBelow_14 rfl rfl ?_
      rw [show below a b = false from decide_eq_false (fun z => Int32.not_lt.mpr c_6 z.2)]
      exact ⟨rfl, rfl⟩
    · refine ev_iconst (v := 1) d_DateReader_isBelow_9 (by decide) ?_
      refine ev_goto (tgt := 14) d_DateReader_isBelow_10 (by decide) ?_
      refine ev_zret d_DateReader_isBelow_14 rfl rfl ?_
      rw [show below a b = true from decide_eq_true ⟨Int32.not_lt.mp c_1, Int32.not_le.mp c_6⟩]
      exact ⟨rfl, rfl⟩
theorem y_daysOf {tm tz sm sz : Nat} (hD : gDt G tm tz sm sz) {h : hp_T} (y m : Int32) : ct_E G m_DateReader_daysOf [.int y, .int m] h (cv (.int (dOf y m)) h) := by
  obtain ⟨⟨hM, -⟩, -⟩ := hD
  refine ct_of (ws' := tb_all) rfl rfl (Nat.le_of_ble_eq_true rfl) ?_
  have no : m < 0 ∨ 12 ≤ m → ev_E G m_DateReader_daysOf 12 [(0, .int y), (1, .int m)] [] h (cv (.int (dOf y m)) h) := by
    intro q
    refine ev_iconst (v := 0) d_DateReader_daysOf_12 (by decide) ?_
    refine ev_iret d_DateReader_daysOf_13 rfl ?_
    rw [show dOf y m = 0 from if_pos q]
    exact ⟨rfl, rfl⟩
  refine ev_iload_n d_DateReader_daysOf_0 rfl rfl ?_
  refine ev_if_lt (tgt := 12) d_DateReader_daysOf_1 (by decide) (fun c_1 => ?_) (fun c_1 => ?_)
  · exact no (Or.inl c_1)
  · refine ev_iload_n d_DateReader_daysOf_4 rfl rfl ?_
    refine ev_gets hM.1 (List.mem_cons_of_mem _ (tb_in 958 (by decide +kernel) rfl)) d_DateReader_daysOf_5 ?_
    refine ev_blen hM.2 d_DateReader_daysOf_8 ?_
    refine ev_icmp_lt (tgt := 14) d_DateReader_daysOf_9 (by decide) (fun c_9 => ?_) (fun c_9 => ?_)
    · have hlt : ¬ (m < 0 ∨ 12 ≤ m) := fun q => q.elim c_1 (fun z => Int32.not_lt.mpr z c_9)
      have tab : ∀ q : Int32, ¬ (m = 1 ∧ leap y = true) → ev_E G m_DateReader_daysOf 55 [(0, .int y), (1, .int m), (2, .int q)] [] h (cv (.int (dOf y m)) h) := by
        intro q hq
        rw [show dOf y m = mdL.getD m.toNatClampNeg 0 from (if_neg hlt).trans (if_neg hq)]
        obtain ⟨j, hj, rfl⟩ := nI_of c_1
        have hj2 : j < mdL.length := (nI_ltI hj (by decide)).mp c_9
        refine ev_gets hM.1 (List.mem_cons_of_mem _ (tb_in 958 (by decide +kernel) rfl)) d_DateReader_daysOf_55 ?_
        refine ev_iload_n d_DateReader_daysOf_58 rfl rfl ?_
        refine ev_biald hM.2 (nI_in hj2 (by decide)) d_DateReader_daysOf_59 ?_
        refine ev_iret d_DateReader_daysOf_60 rfl ?_
        exact ⟨rfl, rfl⟩
      have a40 : ∀ q : Bool, leap y = q → ev_E G m_DateReader_daysOf 40 [(0, .int y), (1, .int m)] [.int (bI q)] h (cv (.int (dOf y m)) h) := by
        intro q hq
        refine ev_istore_n d_DateReader_daysOf_40 rfl (by decide) ?_
        refine ev_iload_n d_DateReader_daysOf_41 rfl rfl ?_
        refine ev_iconst (v := 1) d_DateReader_daysOf_42 (by decide) ?_
        refine ev_icmp_ne (tgt := 55) d_DateReader_daysOf_43 (by decide) (fun c_43 => ?_) (fun c_43 => ?_)
        · exact tab _ (fun z => c_43 z.1)
        · refine ev_iload_n d_DateReader_daysOf_46 rfl rfl ?_
          refine ev_if_eq (tgt := 55) d_DateReader_daysOf_47 (by decide) (fun c_47 => ?_) (fun c_47 => ?_)
          · exact tab _ (fun z => by rw [hq] at z; rw [z.2] at c_47; exact absurd c_47 (by decide))
          · refine ev_bipush (v := 29) d_DateReader_daysOf_50 (by decide) ?_
            refine ev_goto (tgt := 60) d_DateReader_daysOf_52 (by decide) ?_
            refine ev_iret d_DateReader_daysOf_60 rfl ?_
            have h1 : q = true := by
              cases q
              · exact absurd rfl c_47
              · rfl
            rw [show dOf y m = 29 from (if_neg hlt).trans (if_pos ⟨c_43, hq.trans h1⟩)]
            exact ⟨rfl, rfl⟩
      have n39 : leap y = false → ev_E G m_DateReader_daysOf 39 [(0, .int y), (1, .int m)] [] h (cv (.int (dOf y m)) h) := by
        intro q
        refine ev_iconst (v := 0) d_DateReader_daysOf_39 (by decide) ?_
        exact a40 false q
      have y35 : leap y = true → ev_E G m_DateReader_daysOf 35 [(0, .int y), (1, .int m)] [] h (cv (.int (dOf y m)) h) := by
        intro q
        refine ev_iconst (v := 1) d_DateReader_daysOf_35 (by decide) ?_
        refine ev_goto (tgt := 40) d_DateReader_daysOf_36 (by decide) ?_
        exact a40 true q
      refine ev_iload_n d_DateReader_daysOf_14 rfl rfl ?_
      refine ev_iconst (v := 4) d_DateReader_daysOf_15 (by decide) ?_
      refine ev_irem d_DateReader_daysOf_16 (by decide) ?_
      refine ev_if_ne (tgt := 39) d_DateReader_daysOf_17 (by decide) (fun c_17 => ?_) (fun c_17 => ?_)
      · exact n39 (decide_eq_false (fun z => c_17 z.1))
      · refine ev_iload_n d_DateReader_daysOf_20 rfl rfl ?_
        refine ev_bipush (v := 100) d_DateReader_daysOf_21 (by decide) ?_
        refine ev_irem d_DateReader_daysOf_23 (by decide) ?_
        refine ev_if_ne (tgt := 35) d_DateReader_daysOf_24 (by decide) (fun c_24 => ?_) (fun c_24 => ?_)
        · exact y35 (decide_eq_true ⟨c_17, Or.inl c_24⟩)
        · refine ev_iload_n d_DateReader_daysOf_27 rfl rfl ?_
          refine ev_sipush (v := 400) d_DateReader_daysOf_28 (by decide) ?_
          refine ev_irem d_DateReader_daysOf_31 (by decide) ?_
          refine ev_if_ne (tgt := 39) d_DateReader_daysOf_32 (by decide) (fun c_32 => ?_) (fun c_32 => ?_)
          · exact n39 (decide_eq_false (fun z => z.2.elim (fun q => q c_24) c_32))
          · exact y35 (decide_eq_true ⟨c_17, Or.inr c_32⟩)
    · exact no (Or.inr (Int32.not_lt.mp c_9))
theorem y_daysAhead {h : hp_T} (y : Int32) : ct_E G m_DateReader_daysAhead [.int y] h (cv (.int (dA y)) h) := by
  refine ct_of (ws' := tb_all) rfl rfl (Nat.le_of_ble_eq_true rfl) ?_
  refine ev_iload_n d_DateReader_daysAhead_0 rfl rfl ?_
  refine ev_iconst (v := 1) d_DateReader_daysAhead_1 (by decide) ?_
  refine ev_isub d_DateReader_daysAhead_2 ?_
  refine ev_istore_n d_DateReader_daysAhead_3 rfl (by decide) ?_
  refine ev_sipush (v := 365) d_DateReader_daysAhead_4 (by decide) ?_
  refine ev_iload_n d_DateReader_daysAhead_7 rfl rfl ?_
  refine ev_imul d_DateReader_daysAhead_8 ?_
  refine ev_iload_n d_DateReader_daysAhead_9 rfl rfl ?_
  refine ev_iconst (v := 4) d_DateReader_daysAhead_10 (by decide) ?_
  refine ev_idiv d_DateReader_daysAhead_11 (by decide) ?_
  refine ev_iadd d_DateReader_daysAhead_12 ?_
  refine ev_iload_n d_DateReader_daysAhead_13 rfl rfl ?_
  refine ev_bipush (v := 100) d_DateReader_daysAhead_14 (by decide) ?_
  refine ev_idiv d_DateReader_daysAhead_16 (by decide) ?_
  refine ev_isub d_DateReader_daysAhead_17 ?_
  refine ev_iload_n d_DateReader_daysAhead_18 rfl rfl ?_
  refine ev_sipush (v := 400) d_DateReader_daysAhead_19 (by decide) ?_
  refine ev_idiv d_DateReader_daysAhead_22 (by decide) ?_
  refine ev_iadd d_DateReader_daysAhead_23 ?_
  refine ev_iret d_DateReader_daysAhead_24 rfl ?_
  exact ⟨rfl, rfl⟩
theorem ly_since {tm tz sm sz : Nat} (hD : gDt G tm tz sm sz) {h : hp_T} {y dd n : Int32} {m : Nat} (hm : m ≤ 12) : ∀ (d i : Nat), i + d = m → ev_E G m_DateReader_daysSince1970 19 [(0, .int y), (1, .int (nI m)), (2, .int dd), (3, .int (n + mSm y i)), (4, .int (nI i))] [] h (cv (.int (n + mSm y m)) h) := by
  intro d
  induction d with
  | zero =>
    intro i hi
    obtain rfl : i = m := by omega
    refine ev_iload d_DateReader_daysSince1970_19 rfl ?_
    refine ev_iload_n d_DateReader_daysSince1970_21 rfl rfl ?_
    refine ev_icmp_ge (tgt := 40) d_DateReader_daysSince1970_22 (by decide) (fun _ => ?_) (fun z => absurd (nI_le (Nat.le_refl _) (by omega)) z)
    refine ev_iload_n d_DateReader_daysSince1970_40 rfl rfl ?_
    refine ev_iret d_DateReader_daysSince1970_41 rfl ?_
    exact ⟨rfl, rfl⟩
  | succ d ih =>
    intro i hi
    refine ev_iload d_DateReader_daysSince1970_19 rfl ?_
    refine ev_iload_n d_DateReader_daysSince1970_21 rfl rfl ?_
    refine ev_icmp_ge (tgt := 40) d_DateReader_daysSince1970_22 (by decide) (fun z => absurd z (nI_ge (by omega) (by omega))) (fun _ => ?_)
    refine ev_iload_n d_DateReader_daysSince1970_25 rfl rfl ?_
    refine ev_iload_n d_DateReader_daysSince1970_26 rfl rfl ?_
    refine ev_iload d_DateReader_daysSince1970_27 rfl ?_
    refine ev_Sv [.int y, .int (nI i)] [.int (n + mSm y i)] ca_DateReader_daysSince1970_117 d_DateReader_daysSince1970_29 rfl (Nat.le_of_ble_eq_true rfl) (y_daysOf hD y (nI i)) ?_
    refine ev_iadd d_DateReader_daysSince1970_32 ?_
    refine ev_istore_n d_DateReader_daysSince1970_33 rfl (by decide) ?_
    refine ev_iinc d_DateReader_daysSince1970_34 rfl (by decide) ?_
    refine ev_goto (tgt := 19) d_DateReader_daysSince1970_37 (by decide) ?_
    refine ev_as [(0, .int y), (1, .int (nI m)), (2, .int dd), (3, .int (n + mSm y (i + 1))), (4, .int (nI (i + 1)))] ⟨rfl, rfl, rfl, ?_, ?_, trivial⟩ (ih (i + 1) (by omega))
    · show some (Value.int (n + mSm y i + dOf y (nI i))) = _
      rw [Int32.add_assoc]
      rfl
    · show some (Value.int (nI i + 1)) = _
      rw [nI_1]
theorem y_since {tm tz sm sz : Nat} (hD : gDt G tm tz sm sz) {h : hp_T} (y dd : Int32) {m : Nat} (hm : m ≤ 12) : ct_E G m_DateReader_daysSince1970 [.int y, .int (nI m), .int dd] h (cv (.int (dA y - dA 1970 + dd - 1 + mSm y m)) h) := by
  refine ct_of (ws' := tb_all) rfl rfl (Nat.le_of_ble_eq_true rfl) ?_
  refine ev_iload_n d_DateReader_daysSince1970_0 rfl rfl ?_
  refine ev_Sv [.int y] [] ca_DateReader_daysSince1970_123 d_DateReader_daysSince1970_1 rfl (Nat.le_of_ble_eq_true rfl) (y_daysAhead y) ?_
  refine ev_sipush (v := 1970) d_DateReader_daysSince1970_4 (by decide) ?_
  refine ev_Sv [.int 1970] [.int (dA y)] ca_DateReader_daysSince1970_123 d_DateReader_daysSince1970_7 rfl (Nat.le_of_ble_eq_true rfl) (y_daysAhead 1970) ?_
  refine ev_isub d_DateReader_daysSince1970_10 ?_
  refine ev_iload_n d_DateReader_daysSince1970_11 rfl rfl ?_
  refine ev_iadd d_DateReader_daysSince1970_12 ?_
  refine ev_iconst (v := 1) d_DateReader_daysSince1970_13 (by decide) ?_
  refine ev_isub d_DateReader_daysSince1970_14 ?_
  refine ev_istore_n d_DateReader_daysSince1970_15 rfl (by decide) ?_
  refine ev_iconst (v := 0) d_DateReader_daysSince1970_16 (by decide) ?_
  refine ev_istore d_DateReader_daysSince1970_17 (by decide) ?_
  refine ev_as [(0, .int y), (1, .int (nI m)), (2, .int dd), (3, .int (dA y - dA 1970 + dd - 1 + mSm y 0)), (4, .int (nI 0))] ⟨rfl, rfl, rfl, ?_, rfl, trivial⟩ (ly_since hD hm m 0 (by omega))
  show some (Value.int (dA y - dA 1970 + dd - 1)) = some (.int (dA y - dA 1970 + dd - 1 + 0))
  rw [Int32.add_zero]
theorem y_isDay {tm tz sm sz : Nat} (hD : gDt G tm tz sm sz) {h : hp_T} (y m dd : Int32) : ct_E G m_DateReader_isDay [.int y, .int m, .int dd] h (cv (.int (bI (dayOk y m dd))) h) := by
  refine ct_of (ws' := tb_all) rfl rfl (Nat.le_of_ble_eq_true rfl) ?_
  have no : ¬ (1900 ≤ y ∧ y ≤ 2999 ∧ 1 ≤ dd ∧ dd ≤ dOf y m) → ev_E G m_DateReader_isDay 32 [(0, .int y), (1, .int m), (2, .int dd)] [] h (cv (.int (bI (dayOk y m dd))) h) := by
    intro q
    refine ev_iconst (v := 0) d_DateReader_isDay_32 (by decide) ?_
    refine ev_zret d_DateReader_isDay_33 rfl rfl ?_
    rw [show dayOk y m dd = false from decide_eq_false q]
    exact ⟨rfl, rfl⟩
  refine ev_iload_n d_DateReader_isDay_0 rfl rfl ?_
  refine ev_sipush (v := 1900) d_DateReader_isDay_1 (by decide) ?_
  refine ev_icmp_lt (tgt := 32) d_DateReader_isDay_4 (by decide) (fun c_4 => ?_) (fun c_4 => ?_)
  · exact no (fun z => Int32.not_lt.mpr z.1 c_4)
  · refine ev_iload_n d_DateReader_isDay_7 rfl rfl ?_
    refine ev_sipush (v := 2999) d_DateReader_isDay_8 (by decide) ?_
    refine ev_icmp_gt (tgt := 32) d_DateReader_isDay_11 (by decide) (fun c_11 => ?_) (fun c_11 => ?_)
    · exact no (fun z => Int32.not_lt.mpr z.2.1 c_11)
    · refine ev_iload_n d_DateReader_isDay_14 rfl rfl ?_
      refine ev_iconst (v := 1) d_DateReader_isDay_15 (by decide) ?_
      refine ev_icmp_lt (tgt := 32) d_DateReader_isDay_16 (by decide) (fun c_16 => ?_) (fun c_16 => ?_)
      · exact no (fun z => Int32.not_lt.mpr z.2.2.1 c_16)
      · refine ev_iload_n d_DateReader_isDay_19 rfl rfl ?_
        refine ev_iload_n d_DateReader_isDay_20 rfl rfl ?_
        refine ev_iload_n d_DateReader_isDay_21 rfl rfl ?_
        refine ev_Sv [.int y, .int m] [.int dd] ca_DateReader_isDay_117 d_DateReader_isDay_22 rfl (Nat.le_of_ble_eq_true rfl) (y_daysOf hD y m) ?_
        refine ev_icmp_gt (tgt := 32) d_DateReader_isDay_25 (by decide) (fun c_25 => ?_) (fun c_25 => ?_)
        · exact no (fun z => Int32.not_lt.mpr z.2.2.2 c_25)
        · refine ev_iconst (v := 1) d_DateReader_isDay_28 (by decide) ?_
          refine ev_goto (tgt := 33) d_DateReader_isDay_29 (by decide) ?_
          refine ev_zret d_DateReader_isDay_33 rfl rfl ?_
          rw [show dayOk y m dd = true from decide_eq_true ⟨Int32.not_lt.mp c_4, Int32.not_lt.mp c_11, Int32.not_lt.mp c_16, Int32.not_lt.mp c_25⟩]
          exact ⟨rfl, rfl⟩
end DCLS
