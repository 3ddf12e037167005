/-! the reference: parameter -/
/-- the first parameter of that name and PIECE -/
def pick (T : List Int32) (pc : Int32) (Q : List Prm) : Option Prm := Q.find? (fun q => decide (q.2.1 = pc) && eqS q.1 T)
theorem pmF_pick (T : List Int32) (pc : Int32) : ∀ (Q : List Prm) (i : Nat), (pick T pc Q = none ∧ pmF T pc Q i = -1) ∨ ∃ (j : Nat) (q : Prm), pick T pc Q = some q ∧ Q[j]? = some q ∧ pmF T pc Q i = nI (i + j) ∧ q.2.1 = pc
  | [], _ => Or.inl ⟨rfl, rfl⟩
  | q :: Q, i => by
    by_cases h : q.2.1 = pc ∧ eqS q.1 T = true
    · refine Or.inr ⟨0, q, ?_, rfl, if_pos h, h.1⟩
      simp [pick, h.1, h.2]
    · have h0 : pick T pc (q :: Q) = pick T pc Q := by
        unfold pick
        rw [List.find?_cons_of_neg]
        simpa using h
      rw [h0, show pmF T pc (q :: Q) i = pmF T pc Q (i + 1) from if_neg h]
      rcases pmF_pick T pc Q (i + 1) with z | ⟨j, x, z1, z2, z3, z4⟩
      · exact Or.inl z
      · exact Or.inr ⟨j + 1, x, z1, by simpa using z2, by rw [z3]; congr 1; omega, z4⟩
theorem sumV_le (p : Prm → Bool) : ∀ Q : List Prm, sumV (Q.filter p) ≤ sumV Q
  | [] => Nat.le_refl _
  | q :: Q => by
    have h := sumV_le p Q
    by_cases hp : p q = true
    · rw [List.filter_cons_of_pos hp]
      simp only [sumV]
      omega
    · rw [List.filter_cons_of_neg hp]
      simp only [sumV]
      omega
theorem sumV_mono {p p' : Prm → Bool} (hm : ∀ x, p x = true → p' x = true) : ∀ Q : List Prm, sumV (Q.filter p) ≤ sumV (Q.filter p')
  | [] => Nat.le_refl _
  | q :: Q => by
    have h := sumV_mono hm Q
    by_cases hp : p q = true
    · rw [List.filter_cons_of_pos hp, List.filter_cons_of_pos (hm q hp)]
      simp only [sumV]
      omega
    · rw [List.filter_cons_of_neg hp]
      by_cases hp' : p' q = true
      · rw [List.filter_cons_of_pos hp']
        simp only [sumV]
        omega
      · rw [List.filter_cons_of_neg hp']
        exact h
theorem sumV_step {p p' : Prm → Bool} (hm : ∀ x, p x = true → p' x = true) {q : Prm} (h1 : p q = false) (h2 : p' q = true) : ∀ (Q : List Prm) (j : Nat), Q[j]? = some q → sumV (Q.filter p) + q.2.2.2.length ≤ sumV (Q.filter p')
  | [], _, h => by simp at h
  | x :: Q, 0, h => by
    have e : x = q := by simpa using h
    subst e
    have h3 := sumV_mono hm Q
    rw [List.filter_cons_of_neg (by rw [h1]; decide), List.filter_cons_of_pos h2]
    simp only [sumV]
    omega
  | x :: Q, j + 1, h => by
    have h3 := sumV_step hm h1 h2 Q j (by simpa using h)
    by_cases hp : p x = true
    · rw [List.filter_cons_of_pos hp, List.filter_cons_of_pos (hm x hp)]
      simp only [sumV]
      omega
    · rw [List.filter_cons_of_neg hp]
      by_cases hp' : p' x = true
      · rw [List.filter_cons_of_pos hp']
        simp only [sumV]
        omega
      · rw [List.filter_cons_of_neg hp']
        exact h3
/-- the pieces from number k on -/
def more (T : List Int32) (Q : List Prm) : Nat → Nat → List Int32
  | 0, _ => []
  | n + 1, k => match pick T (nI k) Q with
    | none => []
    | some q => vlOf q ++ more T Q n (k + 1)
def chL (q : Prm) : List Int32 := match chOf q with
  | none => []
  | some (ch, _) => ch
/-- the parameter in hand: its bytes, its charset -/
def hdOf (T : List Int32) (Q : List Prm) : Option (List Int32 × List Int32) := match pick T (-1) Q with
  | some q => some (vlOf q, chL q)
  | none => match pick T 0 Q with
    | some q => some (vlOf q ++ more T Q 9 1, chL q)
    | none => none
theorem pmOk_sm {Q : List Prm} {I I' : Nat → Int32} {R R' : Nat → Nat → Int32} (h : pmOk Q I R) (hI : I' 27 = I 27) (hs : sm [26, 27] R R') : pmOk Q I' R' := by
  refine ⟨by rw [hI]; exact h.1, h.2.1, h.2.2.1, fun i q hq => ?_⟩
  have := h.2.2.2 i q hq
  unfold prAt at this ⊢
  rw [hs 19 (by decide), hs 20 (by decide), hs 21 (by decide), hs 22 (by decide), hs 23 (by decide), hs 24 (by decide), hs 25 (by decide)]
  exact this
section PAR
variable {G : gl_G} {cI cZ : ClassId} {h0 : hp_T} {M : Nat}
theorem l_Model_parX {I : Nat → Int32} {R : Nat → Nat → Int32} {n x y : Int32} {k : Nat} (hk : 10 ≤ k) (hk2 : k ≤ 20) : ev_E G m_Model_parameter 79 [(0, .ref M), (1, .int n), (2, .int x), (3, .int y), (4, .int (nI k))] [] (mo_ov cI cZ h0 M I R) (cr (fun v h' => v = .int (I 37) ∧ h' = mo_ov cI cZ h0 M I R)) := by
  refine ev_iload d_Model_parameter_79 rfl ?_
  refine ev_bipush (v := 10) d_Model_parameter_81 (by decide) ?_
  refine ev_icmp_ge (tgt := 121) d_Model_parameter_83 (by decide) (fun _ => ?_) (fun z => absurd (nI_le (a := 10) (b := k) hk (by omega)) z)
  refine ev_aload_n d_Model_parameter_121 rfl rfl ?_
  refine mo_get (fa_Model_92 rfl rfl) d_Model_parameter_122 rfl ?_
  refine ev_iret d_Model_parameter_125 rfl ?_
  exact ⟨_, rfl, rfl, rfl⟩
theorem l_Model_parW {I : Nat → Int32} {R : Nat → Nat → Int32} {n x : Int32} : ev_E G m_Model_parameter 79 [(0, .ref M), (1, .int n), (2, .int x), (3, .int 1), (4, .int 1)] [] (mo_ov cI cZ h0 M I R) (cr (fun v h' => v = .int (I 37) ∧ h' = mo_ov cI cZ h0 M I R)) := by
  refine ev_iload d_Model_parameter_79 rfl ?_
  refine ev_bipush (v := 10) d_Model_parameter_81 (by decide) ?_
  refine ev_icmp_ge (tgt := 121) d_Model_parameter_83 (by decide) (fun z => absurd z (by decide)) (fun _ => ?_)
  refine ev_iload_n d_Model_parameter_86 rfl rfl ?_
  refine ev_if_ne (tgt := 121) d_Model_parameter_87 (by decide) (fun _ => ?_) (fun z => absurd z (by decide))
  refine ev_aload_n d_Model_parameter_121 rfl rfl ?_
  refine mo_get (fa_Model_92 rfl rfl) d_Model_parameter_122 rfl ?_
  refine ev_iret d_Model_parameter_125 rfl ?_
  exact ⟨_, rfl, rfl, rfl⟩
theorem l_Model_par (hT : (gl_t G)[0]? = some (cI, .int)) (hZ : (gl_t G)[1]? = some (cZ, .boolean)) {Q : List Prm} {T : List Int32} (hn : T.length ≤ 1500) : ∀ (n k : Nat) (cur : List Int32) (x : Int32) (I : Nat → Int32) (R : Nat → Nat → Int32), k + n = 10 → 1 ≤ k → I 37 = nI cur.length → hol (R 26) 0 cur → cur.length ≤ sumV (Q.filter (fun q => decide (q.2.1 < nI k))) → pmOk Q I R → hol (R 2) 0 T →
    ev_E G m_Model_parameter 79 [(0, .ref M), (1, .int (nI T.length)), (2, .int x), (3, .int 0), (4, .int (nI k))] [] (mo_ov cI cZ h0 M I R) (cr (fun v h' => v = .int (nI (cur ++ more T Q n k).length) ∧ (cur ++ more T Q n k).length ≤ 1600 ∧ ∃ R', h' = mo_ov cI cZ h0 M (upd I 37 (nI (cur ++ more T Q n k).length)) R' ∧ hol (R' 26) 0 (cur ++ more T Q n k) ∧ sm [26] R R')) := by
  intro n
  have same : ∀ (I : Nat → Int32) (v : Int32), I 37 = v → upd I 37 v = I := fun I v h => by
    funext j
    unfold upd
    by_cases hj : j = 37
    · rw [if_pos hj, hj, h]
    · rw [if_neg hj]
  induction n with
  | zero =>
    intro k cur x I R hk hk1 h37 hc hs hQ hh
    have hle := Nat.le_trans hs (Nat.le_trans (sumV_le _ _) hQ.2.2.1)
    refine ev_to (l_Model_parX (by omega) (by omega)) ?_
    rintro o h' ⟨v, rfl, rfl, rfl⟩
    have e : cur ++ more T Q 0 k = cur := by simp [more]
    rw [e]
    exact ⟨_, rfl, by rw [h37], hle, R, by rw [same I _ h37], hc, sm_rf _ _⟩
  | succ n ih =>
    intro k cur x I R hk hk1 h37 hc hs hQ hh
    have hle := Nat.le_trans hs (Nat.le_trans (sumV_le _ _) hQ.2.2.1)
    have hQl := hQ.2.1
    refine ev_iload d_Model_parameter_79 rfl ?_
    refine ev_bipush (v := 10) d_Model_parameter_81 (by decide) ?_
    refine ev_icmp_ge (tgt := 121) d_Model_parameter_83 (by decide) (fun z => absurd z (nI_ge (a := k) (b := 10) (by omega) (by omega))) (fun _ => ?_)
    refine ev_iload_n d_Model_parameter_86 rfl rfl ?_
    refine ev_if_ne (tgt := 121) d_Model_parameter_87 (by decide) (fun z => absurd rfl z) (fun _ => ?_)
    refine ev_aload_n d_Model_parameter_90 rfl rfl ?_
    refine ev_iload_n d_Model_parameter_91 rfl rfl ?_
    refine ev_iload d_Model_parameter_92 rfl ?_
    refine mo_Vv [.int (nI T.length), .int (nI k)] [] ca_Model_parameter_365 d_Model_parameter_94 rfl (Nat.le_of_ble_eq_true rfl) (c_Model_parameterOf hT hQ hn hh (nI k)) ?_
    rcases pmF_pick T (nI k) Q 0 with ⟨z1, z2⟩ | ⟨j, q, z1, z2, z3, z4⟩
    · rw [z2]
      refine ev_istore_n d_Model_parameter_97 rfl (by decide) ?_
      refine ev_iload_n d_Model_parameter_98 rfl rfl ?_
      refine ev_iconst (v := (-1)) d_Model_parameter_99 (by decide) ?_
      refine ev_icmp_ne (tgt := 110) d_Model_parameter_100 (by decide) (fun z => absurd rfl z) (fun _ => ?_)
      refine ev_bipush (v := 10) d_Model_parameter_103 (by decide) ?_
      refine ev_istore d_Model_parameter_105 (by decide) ?_
      refine ev_goto (tgt := 115) d_Model_parameter_107 (by decide) ?_
      refine ev_iinc d_Model_parameter_115 rfl (by decide) ?_
      refine ev_goto (tgt := 79) d_Model_parameter_118 (by decide) ?_
      refine ev_as [(0, .ref M), (1, .int (nI T.length)), (2, .int (-1)), (3, .int 0), (4, .int (nI 11))] ⟨rfl, rfl, rfl, rfl, rfl, trivial⟩ (ev_to (l_Model_parX (by decide) (by decide)) ?_)
      rintro o h' ⟨v, rfl, rfl, rfl⟩
      have e : cur ++ more T Q (n + 1) k = cur := by simp [more, z1]
      rw [e]
      exact ⟨_, rfl, by rw [h37], hle, R, by rw [same I _ h37], hc, sm_rf _ _⟩
    · rw [z3, Nat.zero_add]
      have hjQ : j < Q.length := (List.getElem?_eq_some_iff.mp z2).1
      have hst := sumV_step (p := fun q => decide (q.2.1 < nI k)) (p' := fun q => decide (q.2.1 < nI (k + 1))) (fun x hx => decide_eq_true (Int32.lt_trans (of_decide_eq_true hx) (nI_lt (by omega) (by omega)))) (q := q) (decide_eq_false (by rw [z4]; exact nI_nlt (Nat.le_refl _) (by omega))) (decide_eq_true (by rw [z4]; exact nI_lt (by omega) (by omega))) Q j z2
      have hst2 := Nat.le_trans hst (Nat.le_trans (sumV_le _ _) hQ.2.2.1)
      have hch : chOf q = none := if_neg fun z => z.2 (by rw [z4]; exact nI_lt (a := 0) (b := k) (by omega) (by omega))
      refine ev_istore_n d_Model_parameter_97 rfl (by decide) ?_
      refine ev_iload_n d_Model_parameter_98 rfl rfl ?_
      refine ev_iconst (v := (-1)) d_Model_parameter_99 (by decide) ?_
      refine ev_icmp_ne (tgt := 110) d_Model_parameter_100 (by decide) (fun _ => ?_) (fun z => ?_)
      · refine ev_aload_n d_Model_parameter_110 rfl rfl ?_
        refine ev_iload_n d_Model_parameter_111 rfl rfl ?_
        refine mo_Vn [.int (nI j)] [] ca_Model_parameter_368 d_Model_parameter_112 rfl (Nat.le_of_ble_eq_true rfl) (c_Model_takeValue hT hZ (by omega) (hQ.2.2.2 j q z2) h37 hc (by omega)) (fun h1 z => ?_)
        obtain ⟨R1, rfl, p1, -, p3, p4⟩ := z
        have e2 : c38 q I = I := by unfold c38; rw [hch]
        rw [e2]
        have hs1 : sm [26] R R1 := fun i hi => by
          by_cases h27 : i = 27
          · rw [h27]; exact p3 hch
          · exact p4 i (by simp at hi; simp [hi, h27])
        have hvl := vlOf_len q
        refine ev_iinc d_Model_parameter_115 rfl (by decide) ?_
        refine ev_goto (tgt := 79) d_Model_parameter_118 (by decide) ?_
        rw [show nI k + Int32.ofInt 1 = nI (k + 1) from nI_1 k]
        have K := ih (k + 1) (cur ++ vlOf q) (nI j) (upd I 37 (nI (cur ++ vlOf q).length)) R1 (by omega) (by omega) (by simp [upd]) p1 (by rw [List.length_append]; omega) (pmOk_sm hQ rfl p4) (by rw [p4 2 (by decide)]; exact hh)
        refine ev_to K ?_
        rintro o h' ⟨v, rfl, rfl, r1, R', rfl, r2, r3⟩
        have e3 : cur ++ vlOf q ++ more T Q n (k + 1) = cur ++ more T Q (n + 1) k := by simp [more, z1]
        rw [e3] at r1 r2 ⊢
        exact ⟨_, rfl, rfl, r1, R', by rw [upd_upd], r2, sm_tr hs1 r3⟩
      · have := nI_pos (n := j) (by omega)
        rw [z] at this
        exact absurd (by decide) this
/-- parameter -/
theorem c_Model_parameter (hT : (gl_t G)[0]? = some (cI, .int)) (hZ : (gl_t G)[1]? = some (cZ, .boolean)) {Q : List Prm} {T : List Int32} {I : Nat → Int32} {R : Nat → Nat → Int32} (hQ : pmOk Q I R) (hn : T.length ≤ 1500) (hI3 : I 3 = nI T.length) (hh : hol (R 2) 0 T) : ct_E G m_Model_parameter [.ref M] (mo_ov cI cZ h0 M I R) (cr (fun v h' => v = .int (oL ((hdOf T Q).map (fun x => x.1))) ∧ ∃ R', h' = mo_ov cI cZ h0 M (upd (upd (upd (upd I 0 0) 3 0) 37 (oL ((hdOf T Q).map (fun x => x.1)))) 38 (oL ((hdOf T Q).map (fun x => x.2)))) R' ∧ (∀ hd ch, hdOf T Q = some (hd, ch) → hd.length ≤ 1600 ∧ ch.length ≤ 1600 ∧ hol (R' 26) 0 hd ∧ hol (R' 27) 0 ch) ∧ sm [26, 27] R R')) := by
  have hQl := hQ.2.1
  have hQ1 : pmOk Q (upd (upd (upd (upd I 0 0) 3 0) 37 (-1)) 38 (-1)) R := pmOk_sm hQ rfl (sm_rf _ _)
  have hQ2 : pmOk Q (upd (upd (upd (upd (upd (upd I 0 0) 3 0) 37 (-1)) 38 (-1)) 37 0) 38 0) R := pmOk_sm hQ rfl (sm_rf _ _)
  have nonneg : ∀ j : Nat, j < 800 → ¬ nI j = -1 := fun j hj z => by
    have := nI_pos (n := j) (by omega)
    rw [z] at this
    exact absurd (by decide) this
  -- behind the first takeValue
  have hI4 : ∀ (q : Prm) (v : Int32), upd (c38 q (upd (upd (upd (upd (upd (upd I 0 0) 3 0) 37 (-1)) 38 (-1)) 37 0) 38 0)) 37 v = upd (upd (upd (upd I 0 0) 3 0) 37 v) 38 (nI (chL q).length) := by
    intro q v
    funext j
    unfold c38 chL
    cases hch : chOf q with
    | none =>
      show upd _ 37 v j = _
      unfold upd
      by_cases h1 : j = 37
      · subst h1; simp
      · by_cases h2 : j = 38
        · subst h2; simp [nI_0]
        · simp [h1, h2]
    | some x =>
      show upd (upd _ 38 _) 37 v j = _
      unfold upd
      by_cases h1 : j = 37
      · subst h1; simp
      · by_cases h2 : j = 38
        · subst h2; simp
        · simp [h1, h2]
  refine ct_of (ws' := tb_all) rfl rfl (Nat.le_of_ble_eq_true rfl) ?_
  refine ev_aload_n d_Model_parameter_0 rfl rfl ?_
  refine ev_iconst (v := 0) d_Model_parameter_1 (by decide) ?_
  refine mo_put (fp_Model_99 rfl rfl) d_Model_parameter_2 (Nat.le_of_ble_eq_true rfl) rfl rfl rfl ?_
  refine ev_aload_n d_Model_parameter_5 rfl rfl ?_
  refine mo_get (fa_Model_106 rfl rfl) d_Model_parameter_6 rfl ?_
  rw [show upd I 0 0 3 = nI T.length from hI3]
  refine ev_istore_n d_Model_parameter_9 rfl (by decide) ?_
  refine ev_aload_n d_Model_parameter_10 rfl rfl ?_
  refine ev_iconst (v := 0) d_Model_parameter_11 (by decide) ?_
  refine mo_put (fp_Model_106 rfl rfl) d_Model_parameter_12 (Nat.le_of_ble_eq_true rfl) rfl rfl rfl ?_
  refine ev_aload_n d_Model_parameter_15 rfl rfl ?_
  refine ev_iconst (v := (-1)) d_Model_parameter_16 (by decide) ?_
  refine mo_put (fp_Model_92 rfl rfl) d_Model_parameter_17 (Nat.le_of_ble_eq_true rfl) rfl rfl rfl ?_
  refine ev_aload_n d_Model_parameter_20 rfl rfl ?_
  refine ev_iconst (v := (-1)) d_Model_parameter_21 (by decide) ?_
  refine mo_put (fp_Model_96 rfl rfl) d_Model_parameter_22 (Nat.le_of_ble_eq_true rfl) rfl rfl rfl ?_
  refine ev_aload_n d_Model_parameter_25 rfl rfl ?_
  refine ev_iload_n d_Model_parameter_26 rfl rfl ?_
  refine ev_iconst (v := (-1)) d_Model_parameter_27 (by decide) ?_
  refine mo_Vv [.int (nI T.length), .int (-1)] [] ca_Model_parameter_365 d_Model_parameter_28 rfl (Nat.le_of_ble_eq_true rfl) (c_Model_parameterOf hT hQ1 hn hh (-1)) ?_
  rcases pmF_pick T (-1) Q 0 with ⟨z1, z2⟩ | ⟨j, q, z1, z2, z3, z4⟩
  · rw [z2]
    refine ev_istore_n d_Model_parameter_31 rfl (by decide) ?_
    refine ev_iload_n d_Model_parameter_32 rfl rfl ?_
    refine ev_iconst (v := (-1)) d_Model_parameter_33 (by decide) ?_
    refine ev_icmp_eq (tgt := 41) d_Model_parameter_34 (by decide) (fun _ => ?_) (fun z => absurd rfl z)
    refine ev_iconst (v := 0) d_Model_parameter_41 (by decide) ?_
    refine ev_istore_n d_Model_parameter_42 rfl (by decide) ?_
    refine ev_iload_n d_Model_parameter_43 rfl rfl ?_
    refine ev_if_ne (tgt := 54) d_Model_parameter_44 (by decide) (fun z => absurd rfl z) (fun _ => ?_)
    refine ev_aload_n d_Model_parameter_47 rfl rfl ?_
    refine ev_iload_n d_Model_parameter_48 rfl rfl ?_
    refine ev_iconst (v := 0) d_Model_parameter_49 (by decide) ?_
    refine mo_Vv [.int (nI T.length), .int 0] [] ca_Model_parameter_365 d_Model_parameter_50 rfl (Nat.le_of_ble_eq_true rfl) (c_Model_parameterOf hT hQ1 hn hh 0) ?_
    rcases pmF_pick T 0 Q 0 with ⟨y1, y2⟩ | ⟨j, q, y1, y2, y3, y4⟩
    · rw [y2]
      have e : hdOf T Q = none := by unfold hdOf; rw [z1, y1]
      refine ev_istore_n d_Model_parameter_53 rfl (by decide) ?_
      refine ev_iload_n d_Model_parameter_54 rfl rfl ?_
      refine ev_iconst (v := (-1)) d_Model_parameter_55 (by decide) ?_
      refine ev_icmp_ne (tgt := 61) d_Model_parameter_56 (by decide) (fun z => absurd rfl z) (fun _ => ?_)
      refine ev_iconst (v := (-1)) d_Model_parameter_59 (by decide) ?_
      refine ev_iret d_Model_parameter_60 rfl ?_
      rw [e]
      exact ⟨_, rfl, rfl, R, rfl, fun hd ch hx => by (cases hx), sm_rf _ _⟩
    · rw [show pmF T 0 Q 0 = nI j by rw [y3, Nat.zero_add]]
      have hjQ : j < Q.length := (List.getElem?_eq_some_iff.mp y2).1
      have e : hdOf T Q = some (vlOf q ++ more T Q 9 1, chL q) := by unfold hdOf; rw [z1, y1]
      have hst := sumV_step (p := fun _ => false) (p' := fun q => decide (q.2.1 < nI 1)) (fun x hx => by cases hx) (q := q) rfl (decide_eq_true (by rw [y4]; decide)) Q j y2
      have hst0 : q.2.2.2.length ≤ sumV (Q.filter (fun q => decide (q.2.1 < nI 1))) := by omega
      have hst2 := Nat.le_trans hst0 (Nat.le_trans (sumV_le _ _) hQ.2.2.1)
      refine ev_istore_n d_Model_parameter_53 rfl (by decide) ?_
      refine ev_iload_n d_Model_parameter_54 rfl rfl ?_
      refine ev_iconst (v := (-1)) d_Model_parameter_55 (by decide) ?_
      refine ev_icmp_ne (tgt := 61) d_Model_parameter_56 (by decide) (fun _ => ?_) (fun z => absurd z (nonneg j (by omega)))
      refine ev_aload_n d_Model_parameter_61 rfl rfl ?_
      refine ev_iconst (v := 0) d_Model_parameter_62 (by decide) ?_
      refine mo_put (fp_Model_92 rfl rfl) d_Model_parameter_63 (Nat.le_of_ble_eq_true rfl) rfl rfl rfl ?_
      refine ev_aload_n d_Model_parameter_66 rfl rfl ?_
      refine ev_iconst (v := 0) d_Model_parameter_67 (by decide) ?_
      refine mo_put (fp_Model_96 rfl rfl) d_Model_parameter_68 (Nat.le_of_ble_eq_true rfl) rfl rfl rfl ?_
      refine ev_aload_n d_Model_parameter_71 rfl rfl ?_
      refine ev_iload_n d_Model_parameter_72 rfl rfl ?_
      refine mo_Vn [.int (nI j)] [] ca_Model_parameter_368 d_Model_parameter_73 rfl (Nat.le_of_ble_eq_true rfl) (c_Model_takeValue (cur := []) hT hZ (by omega) (hQ2.2.2.2 j q y2) rfl (hol_nil _ _) (by simpa using hst2)) (fun h1 z => ?_)
      obtain ⟨R1, rfl, p1, p2, p3, p4⟩ := z
      rw [hI4]
      have hvl := vlOf_len q
      rw [List.nil_append] at p1 ⊢
      refine ev_iconst (v := 1) d_Model_parameter_76 (by decide) ?_
      refine ev_istore d_Model_parameter_77 (by decide) ?_
      refine ev_as [(0, .ref M), (1, .int (nI T.length)), (2, .int (nI j)), (3, .int 0), (4, .int (nI 1))] ⟨rfl, rfl, rfl, rfl, rfl, trivial⟩ ?_
      have K := l_Model_par (G := G) (cI := cI) (cZ := cZ) (h0 := h0) (M := M) hT hZ (Q := Q) hn 9 1 (vlOf q) (nI j) (upd (upd (upd (upd I 0 0) 3 0) 37 (nI (vlOf q).length)) 38 (nI (chL q).length)) R1 rfl (by decide) rfl p1 (by omega) (pmOk_sm hQ rfl p4) (by rw [p4 2 (by decide)]; exact hh)
      refine ev_to K ?_
      rintro o h' ⟨v, rfl, rfl, r1, R', rfl, r2, r3⟩
      rw [e]
      refine ⟨_, rfl, rfl, R', ?_, fun hd ch hx => ?_, sm_tr p4 (sm_mono r3 (by decide))⟩
      · congr 1
        funext i
        show upd _ _ _ i = upd _ _ _ i
        unfold upd
        by_cases h1 : i = 37
        · subst h1; simp [oL]
        · by_cases h2 : i = 38
          · subst h2; simp [oL]
          · simp [h1, h2]
      · cases hx
        refine ⟨r1, ?_, r2, ?_⟩
        · unfold chL
          cases hch : chOf q with
          | none => exact Nat.zero_le _
          | some x => have := (chOf_len hch).1; exact Nat.le_trans this (by omega)
        · rw [r3 27 (by decide)]
          unfold chL
          cases hch : chOf q with
          | none => exact hol_nil _ _
          | some x => exact p2 x.1 x.2 hch
  · rw [show pmF T (-1) Q 0 = nI j by rw [z3, Nat.zero_add]]
    have hjQ : j < Q.length := (List.getElem?_eq_some_iff.mp z2).1
    have e : hdOf T Q = some (vlOf q, chL q) := by unfold hdOf; rw [z1]
    have hst := sumV_step (p := fun _ => false) (p' := fun _ => true) (fun x hx => by cases hx) (q := q) rfl rfl Q j z2
    have hst2 : q.2.2.2.length ≤ 1600 := by
      have h1 := sumV_le (fun _ => true) Q
      have h2 := hQ.2.2.1
      omega
    refine ev_istore_n d_Model_parameter_31 rfl (by decide) ?_
    refine ev_iload_n d_Model_parameter_32 rfl rfl ?_
    refine ev_iconst (v := (-1)) d_Model_parameter_33 (by decide) ?_
    refine ev_icmp_eq (tgt := 41) d_Model_parameter_34 (by decide) (fun z => absurd z (nonneg j (by omega))) (fun _ => ?_)
    refine ev_iconst (v := 1) d_Model_parameter_37 (by decide) ?_
    refine ev_goto (tgt := 42) d_Model_parameter_38 (by decide) ?_
    refine ev_istore_n d_Model_parameter_42 rfl (by decide) ?_
    refine ev_iload_n d_Model_parameter_43 rfl rfl ?_
    refine ev_if_ne (tgt := 54) d_Model_parameter_44 (by decide) (fun _ => ?_) (fun z => absurd z (by decide))
    refine ev_iload_n d_Model_parameter_54 rfl rfl ?_
    refine ev_iconst (v := (-1)) d_Model_parameter_55 (by decide) ?_
    refine ev_icmp_ne (tgt := 61) d_Model_parameter_56 (by decide) (fun _ => ?_) (fun z => absurd z (nonneg j (by omega)))
    refine ev_aload_n d_Model_parameter_61 rfl rfl ?_
    refine ev_iconst (v := 0) d_Model_parameter_62 (by decide) ?_
    refine mo_put (fp_Model_92 rfl rfl) d_Model_parameter_63 (Nat.le_of_ble_eq_true rfl) rfl rfl rfl ?_
    refine ev_aload_n d_Model_parameter_66 rfl rfl ?_
    refine ev_iconst (v := 0) d_Model_parameter_67 (by decide) ?_
    refine mo_put (fp_Model_96 rfl rfl) d_Model_parameter_68 (Nat.le_of_ble_eq_true rfl) rfl rfl rfl ?_
    refine ev_aload_n d_Model_parameter_71 rfl rfl ?_
    refine ev_iload_n d_Model_parameter_72 rfl rfl ?_
    refine mo_Vn [.int (nI j)] [] ca_Model_parameter_368 d_Model_parameter_73 rfl (Nat.le_of_ble_eq_true rfl) (c_Model_takeValue (cur := []) hT hZ (by omega) (hQ2.2.2.2 j q z2) rfl (hol_nil _ _) (by simpa using hst2)) (fun h1 z => ?_)
    obtain ⟨R1, rfl, p1, p2, p3, p4⟩ := z
    rw [hI4]
    have hvl := vlOf_len q
    rw [List.nil_append] at p1 ⊢
    refine ev_iconst (v := 1) d_Model_parameter_76 (by decide) ?_
    refine ev_istore d_Model_parameter_77 (by decide) ?_
    refine ev_as [(0, .ref M), (1, .int (nI T.length)), (2, .int (nI j)), (3, .int 1), (4, .int 1)] ⟨rfl, rfl, rfl, rfl, rfl, trivial⟩ ?_
    refine ev_to l_Model_parW ?_
    rintro o h' ⟨v, rfl, rfl, rfl⟩
    rw [e]
    refine ⟨_, rfl, rfl, R1, rfl, fun hd ch hx => ?_, p4⟩
    cases hx
    refine ⟨by omega, ?_, p1, ?_⟩
    · unfold chL
      cases hch : chOf q with
      | none => exact Nat.zero_le _
      | some x => have := (chOf_len hch).1; exact Nat.le_trans this (by omega)
    · unfold chL
      cases hch : chOf q with
      | none => exact hol_nil _ _
      | some x => exact p2 x.1 x.2 hch
end PAR
