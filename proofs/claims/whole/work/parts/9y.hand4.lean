section HAND4
variable {G : gl_G} {cI : ClassId} {X : Nat}
/-- the hand -/
def hdH (σ : rwT) (o : Option (List Int32 × List Int32)) : Prop := match o with
  | none => txH σ 60 [] []
  | some x => txH σ 60 [x.2, x.1] []
theorem ly_takeInHand (hNm : gl_nm G) (hT : (gl_t G)[0]? = some (cI, .int)) {Q : List Prm} (hsum : sumV Q ≤ 1600) {T ch : List Int32} (hT2 : T.length ≤ 1500) (hch : ch.length ≤ 1600) {f : Int32} {ip : Bool} : ∀ (n j : Nat) (op : List Int32) (h : hp_T) (σ : rwT), j + n = 10 → 1 ≤ j → (ip = true → op.length ≤ sumV (Q.filter (pcB j))) → op.length ≤ 1600 → tS cI X h σ → cO X h → ctQ σ Q → (σ 2).2.2 = T → txH σ 60 [ch] op → ev_E G m_ContentType_takeInHand 56 [(0, .ref (X + 40)), (1, .ref (X + 2)), (2, .int f), (3, .int (bI ip)), (4, .int (nI j))] [] h (cr (fun y h' => y = .int (nI (op ++ bif ip then more T Q n j else []).length) ∧ tP cI X h σ hnR (fun σ' => txH σ' 60 [ch, op ++ bif ip then more T Q n j else []] []) h')) := by
  have m60 : (60 : Nat) ∈ txs := by decide
  have fin : ∀ (op : List Int32) (h : hp_T) (σ : rwT), tS cI X h σ → cO X h → txH σ 60 [ch] op → ev_E G m_ContentType_takeInHand 98 [(0, .ref (X + 40))] [] h (cr (fun y h' => y = .int (nI op.length) ∧ tP cI X h σ hnR (fun σ' => txH σ' 60 [ch, op] []) h')) := by
    intro op h σ S O H
    refine ev_aload_n d_ContentType_takeInHand_98 rfl rfl ?_
    refine ev_get (fa_ContentType_38 rfl rfl) d_ContentType_takeInHand_99 O.1 rfl ?_
    refine ev_Vn (ci := 3) [] [] ca_ContentType_takeInHand_79 d_ContentType_takeInHand_102 rfl ((S.2 60 m60)) rfl (Nat.le_of_ble_eq_true rfl) (y_close hT S m60 H (show 1 + 1 < 4096 by decide)) (fun h1 z => ?_)
    obtain ⟨σ1, S1, r1, p1, H1⟩ := z
    have O1 := cO_go S r1 O
    refine ev_aload_n d_ContentType_takeInHand_105 rfl rfl ?_
    refine ev_get (fa_ContentType_38 rfl rfl) d_ContentType_takeInHand_106 O1.1 rfl ?_
    refine ev_iconst (v := 1) d_ContentType_takeInHand_109 (by decide) ?_
    refine ev_Vv (ci := 3) [.int (nI 1)] [] ca_ContentType_takeInHand_72 d_ContentType_takeInHand_110 rfl ((S1.2 60 m60)) rfl (Nat.le_of_ble_eq_true rfl) (w_sizeOf hT S1 m60 (nI 1)) ?_
    rw [show szO (σ1 (60 + 3)).2.2 (nI 1) = nI op.length from by rw [show (σ1 (60 + 3)).2.2 = _ from H1.2]; exact szT (show 2 < 2 ^ 30 by decide) rfl]
    refine ev_iret d_ContentType_takeInHand_113 rfl ?_
    exact ⟨_, rfl, rfl, σ1, S1, r1, fun τ hτ => p1 τ (fun z => hτ (by simp at z; simp [z])), H1⟩
  intro n
  induction n with
  | zero =>
    intro j op h σ hj h1 hop hop2 S O HQ hTT H
    have e0 : op ++ (bif ip then more T Q 0 j else []) = op := by cases ip <;> simp [more]
    rw [e0]
    have ej : j = 10 := by omega
    subst ej
    refine ev_iload_n d_ContentType_takeInHand_56 rfl rfl ?_
    cases ip with
    | false =>
      refine ev_if_eq (tgt := 98) d_ContentType_takeInHand_57 (by decide) (fun _ => ?_) (fun z => absurd rfl z)
      exact ev_as [(0, .ref (X + 40))] ⟨rfl, trivial⟩ (fin op h σ S O H)
    | true =>
      refine ev_if_eq (tgt := 98) d_ContentType_takeInHand_57 (by decide) (fun z => absurd (show (1 : Int32) = 0 from z) (by decide)) (fun _ => ?_)
      refine ev_iload d_ContentType_takeInHand_60 rfl ?_
      refine ev_bipush (v := 9) d_ContentType_takeInHand_62 (by decide) ?_
      refine ev_icmp_gt (tgt := 98) d_ContentType_takeInHand_64 (by decide) (fun _ => ?_) (fun z => absurd (by decide) z)
      exact ev_as [(0, .ref (X + 40))] ⟨rfl, trivial⟩ (fin op h σ S O H)
  | succ n ih =>
    intro j op h σ hj h1 hop hop2 S O HQ hTT H
    refine ev_iload_n d_ContentType_takeInHand_56 rfl rfl ?_
    cases ip with
    | false =>
      refine ev_if_eq (tgt := 98) d_ContentType_takeInHand_57 (by decide) (fun _ => ?_) (fun z => absurd rfl z)
      rw [cond_false, List.append_nil]
      exact ev_as [(0, .ref (X + 40))] ⟨rfl, trivial⟩ (fin op h σ S O H)
    | true =>
      refine ev_if_eq (tgt := 98) d_ContentType_takeInHand_57 (by decide) (fun z => absurd (show (1 : Int32) = 0 from z) (by decide)) (fun _ => ?_)
      refine ev_iload d_ContentType_takeInHand_60 rfl ?_
      refine ev_bipush (v := 9) d_ContentType_takeInHand_62 (by decide) ?_
      refine ev_icmp_gt (tgt := 98) d_ContentType_takeInHand_64 (by decide) (fun z => absurd z (nI_nlt (a := 9) (b := j) (by omega) (by decide))) (fun _ => ?_)
      refine ev_aload_n d_ContentType_takeInHand_67 rfl rfl ?_
      refine ev_aload_n d_ContentType_takeInHand_68 rfl rfl ?_
      refine ev_iload d_ContentType_takeInHand_69 rfl ?_
      refine ev_Vv (ci := 8) [.ref (X + 2), .int (nI j)] [] ca_ContentType_takeInHand_96 d_ContentType_takeInHand_71 rfl (O.1) rfl (Nat.le_of_ble_eq_true rfl) (y_firstOf hNm hT S O HQ (by rw [hTT]; exact hT2) (nI j)) ?_
      rw [hTT]
      refine ev_istore d_ContentType_takeInHand_74 (by decide) ?_
      refine ev_iload d_ContentType_takeInHand_76 rfl ?_
      refine ev_iconst (v := (-1)) d_ContentType_takeInHand_78 (by decide) ?_
      rcases pmF_pick T (nI j) Q 0 with ⟨k1, k2⟩ | ⟨k, q, k1, k2, k3, k4⟩
      · rw [k2]
        refine ev_icmp_ne (tgt := 85) d_ContentType_takeInHand_79 (by decide) (fun z => absurd rfl z) (fun _ => ?_)
        refine ev_goto (tgt := 98) d_ContentType_takeInHand_82 (by decide) ?_
        have e0 : op ++ (bif true then more T Q (n + 1) j else []) = op := by simp [more, k1]
        rw [e0]
        exact ev_as [(0, .ref (X + 40))] ⟨rfl, trivial⟩ (fin op h σ S O H)
      · rw [k3, Nat.zero_add k]
        have hkl := (List.getElem?_eq_some_iff.mp k2).1
        obtain ⟨-, -, b1, -⟩ := ctQ_v S HQ k2
        refine ev_icmp_ne (tgt := 85) d_ContentType_takeInHand_79 (by decide) (fun _ => ?_) (fun z => absurd z (fun z => nI_pos (n := k) (by omega) (by rw [z]; decide)))
        have hstep := sumV_step (p := pcB j) (p' := pcB (j + 1)) (fun x z => by
          simp only [pcB, decide_eq_true_eq] at z ⊢
          obtain ⟨m, m1, m2⟩ := z
          exact ⟨m, by omega, m2⟩) (q := q) (by
          simp only [pcB, decide_eq_false_iff_not]
          rintro ⟨m, m1, m2⟩
          rw [k4] at m2
          have := (nI_eq (by omega) (by omega)).mp m2
          omega) (by
          simp only [pcB, decide_eq_true_eq]
          exact ⟨j, by omega, k4⟩) Q k k2
        have hle := sumV_le (pcB (j + 1)) Q
        have hop1 := hop rfl
        have hv4 : q.2.2.2.length ≤ 1600 := by omega
        refine ev_aload_n d_ContentType_takeInHand_85 rfl rfl ?_
        refine ev_iload d_ContentType_takeInHand_86 rfl ?_
        refine ev_iconst (v := 0) d_ContentType_takeInHand_88 (by decide) ?_
        refine ev_Vn (ci := 8) [.int (nI k), .int (nI 0)] [] ca_ContentType_takeInHand_103 d_ContentType_takeInHand_89 rfl (O.1) rfl (Nat.le_of_ble_eq_true rfl) (y_putBytes hNm hT S O HQ k2 hv4 H (Nat.zero_le _) (by simp; omega)) (fun h1 z => ?_)
        obtain ⟨σ1, S1, r1, p1, H1⟩ := z
        have hpos : (0 : Int32) < q.2.1 := by rw [k4]; exact nI_lt (a := 0) (by omega) (by omega)
        have evl : decS q.2.2.1 q.2.2.2.length (q.2.2.2.drop 0) = vlOf q := by
          rw [vlOf_bh, List.drop_zero]
          have : chOf q = none := by unfold chOf; rw [if_neg (fun z => z.2 hpos)]
          unfold bhOf
          rw [this]
        rw [evl] at H1
        have hvl := vl_len q
        refine ev_iinc d_ContentType_takeInHand_92 rfl (by decide) ?_
        refine ev_goto (tgt := 56) d_ContentType_takeInHand_95 (by decide) ?_
        refine ev_as [(0, .ref (X + 40)), (1, .ref (X + 2)), (2, .int f), (3, .int (bI true)), (4, .int (nI (j + 1)))] ⟨rfl, rfl, rfl, rfl, ?_, trivial⟩ (ev_to (ih (j + 1) (op ++ vlOf q) h1 σ1 (by omega) (by omega) (fun _ => by rw [List.length_append]; omega) (by rw [List.length_append]; omega) S1 (cO_go S r1 O) (ctQ_hn HQ p1) ((p1 2 (by decide)).trans hTT) H1) ?_)
        · show some (Value.int (nI j + Int32.ofInt 1)) = _
          rw [show nI j + Int32.ofInt 1 = nI (j + 1) from nI_1 j]
        · rintro o h' ⟨x, rfl, rfl, σ2, g1, g2, g3, g4⟩
          have em : op ++ vlOf q ++ (bif true then more T Q n (j + 1) else []) = op ++ (bif true then more T Q (n + 1) j else []) := by
            simp [more, k1, List.append_assoc]
          rw [em] at g4 ⊢
          exact ⟨_, rfl, rfl, σ2, g1, rwR_tr r1 g2, fun τ hτ => (g3 τ hτ).trans (p1 τ hτ), g4⟩
theorem y_takeInHand (hNm : gl_nm G) (hT : (gl_t G)[0]? = some (cI, .int)) {Q : List Prm} (hsum : sumV Q ≤ 1600) {T : List Int32} (hT2 : T.length ≤ 1500) {h : hp_T} {σ : rwT} (S : tS cI X h σ) (O : cO X h) (HQ : ctQ σ Q) (hTT : (σ 2).2.2 = T) : ct_E G m_ContentType_takeInHand [.ref (X + 40), .ref (X + 2)] h (cr (fun y h' => y = .int (oL ((hdOf T Q).map (fun x => x.1))) ∧ tP cI X h σ hnR (fun σ' => hdH σ' (hdOf T Q)) h')) := by
  have m60 : (60 : Nat) ∈ txs := by decide
  refine ct_of (ws' := tb_all) rfl rfl (Nat.le_of_ble_eq_true rfl) ?_
  refine ev_aload_n d_ContentType_takeInHand_0 rfl rfl ?_
  refine ev_get (fa_ContentType_38 rfl rfl) d_ContentType_takeInHand_1 O.1 rfl ?_
  refine ev_Vn (ci := 3) [] [] ca_ContentType_takeInHand_41 d_ContentType_takeInHand_4 rfl ((S.2 60 m60)) rfl (Nat.le_of_ble_eq_true rfl) (y_clear S m60) (fun h1 z => ?_)
  obtain ⟨σ1, S1, r1, p1, H1⟩ := z
  have q1 := subL p1 (l := hnR) (by decide)
  have O1 := cO_go S r1 O
  have HQ1 := ctQ_hn HQ q1
  have hT1 : (σ1 2).2.2 = T := (q1 2 (by decide)).trans hTT
  -- a parameter found: from 43 on
  have a43 : ∀ (k : Nat) (q : Prm) (ip : Bool), Q[k]? = some q → ¬ 0 < q.2.1 → (ip = true → q.2.1 = nI 0) → hdOf T Q = some (vlOf q ++ (bif ip then more T Q 9 1 else []), chL q) → ev_E G m_ContentType_takeInHand 43 [(0, .ref (X + 40)), (1, .ref (X + 2)), (2, .int (nI k)), (3, .int (bI ip))] [] h1 (cr (fun y h' => y = .int (oL ((hdOf T Q).map (fun x => x.1))) ∧ tP cI X h σ hnR (fun σ' => hdH σ' (hdOf T Q)) h')) := by
    intro k q ip hq hpc hpi hh
    have hv4 : q.2.2.2.length ≤ 1600 := Nat.le_trans (val_le hq) hsum
    have hcl := chL_len q
    have hvl := vl_len q
    refine ev_aload_n d_ContentType_takeInHand_43 rfl rfl ?_
    refine ev_iload_n d_ContentType_takeInHand_44 rfl rfl ?_
    refine ev_aload_n d_ContentType_takeInHand_45 rfl rfl ?_
    refine ev_iload_n d_ContentType_takeInHand_46 rfl rfl ?_
    refine ev_Vr (ci := 8) [.int (nI k)] [.int (nI k), .ref (X + 40)] ca_ContentType_takeInHand_100 d_ContentType_takeInHand_47 rfl (O1.1) rfl (Nat.le_of_ble_eq_true rfl) (y_putCharset hNm hT S1 O1 HQ1 hq hpc hv4 H1) (fun v h1 z => ?_)
    obtain ⟨⟨st, rfl, hst, hbh⟩, σ2, S2, r2, p2, H2⟩ := z
    have O2 := cO_go S1 r2 O1
    have HQ2 := ctQ_hn HQ1 p2
    refine ev_Vn (ci := 8) [.int (nI k), .int (nI st)] [] ca_ContentType_takeInHand_103 d_ContentType_takeInHand_50 rfl (O2.1) rfl (Nat.le_of_ble_eq_true rfl) (y_putBytes hNm hT S2 O2 HQ2 hq hv4 H2 hst (by simp; omega)) (fun h1 z => ?_)
    obtain ⟨σ3, S3, r3, p3, H3⟩ := z
    have O3 := cO_go S2 r3 O2
    rw [hbh, ← vlOf_bh, List.nil_append] at H3
    refine ev_iconst (v := 1) d_ContentType_takeInHand_53 (by decide) ?_
    refine ev_istore d_ContentType_takeInHand_54 (by decide) ?_
    refine ev_as [(0, .ref (X + 40)), (1, .ref (X + 2)), (2, .int (nI k)), (3, .int (bI ip)), (4, .int (nI 1))] ⟨rfl, rfl, rfl, rfl, rfl, trivial⟩ (ev_to (ly_takeInHand hNm hT hsum hT2 (by omega) 9 1 (vlOf q) _ σ3 (by omega) (Nat.le_refl _) (fun hip => ?_) (by omega) S3 O3 (ctQ_hn HQ2 p3) ((p3 2 (by decide)).trans ((p2 2 (by decide)).trans hT1)) H3) ?_)
    · have hstep := sumV_step (p := fun _ => false) (p' := pcB 1) (fun x z => by cases z) (q := q) rfl (by
        simp only [pcB, decide_eq_true_eq]
        exact ⟨0, by omega, hpi hip⟩) Q k hq
      omega
    · rintro o h' ⟨x, rfl, rfl, σ4, g1, g2, g3, g4⟩
      rw [hh]
      exact ⟨_, rfl, rfl, σ4, g1, rwR_tr r1 (rwR_tr r2 (rwR_tr r3 g2)), fun τ hτ => (g3 τ hτ).trans ((p3 τ hτ).trans ((p2 τ hτ).trans (q1 τ hτ))), g4⟩
  refine ev_aload_n d_ContentType_takeInHand_7 rfl rfl ?_
  refine ev_aload_n d_ContentType_takeInHand_8 rfl rfl ?_
  refine ev_iconst (v := (-1)) d_ContentType_takeInHand_9 (by decide) ?_
  refine ev_Vv (ci := 8) [.ref (X + 2), .int (-1)] [] ca_ContentType_takeInHand_96 d_ContentType_takeInHand_10 rfl (O1.1) rfl (Nat.le_of_ble_eq_true rfl) (y_firstOf hNm hT S1 O1 HQ1 (by rw [hT1]; exact hT2) (-1)) ?_
  rw [hT1]
  refine ev_istore_n d_ContentType_takeInHand_13 rfl (by decide) ?_
  refine ev_iload_n d_ContentType_takeInHand_14 rfl rfl ?_
  refine ev_iconst (v := (-1)) d_ContentType_takeInHand_15 (by decide) ?_
  rcases pmF_pick T (-1) Q 0 with ⟨k1, k2⟩ | ⟨k, q, k1, k2, k3, k4⟩
  · rw [k2]
    refine ev_icmp_ne (tgt := 23) d_ContentType_takeInHand_16 (by decide) (fun z => absurd rfl z) (fun _ => ?_)
    refine ev_iconst (v := 1) d_ContentType_takeInHand_19 (by decide) ?_
    refine ev_goto (tgt := 24) d_ContentType_takeInHand_20 (by decide) ?_
    refine ev_istore_n d_ContentType_takeInHand_24 rfl (by decide) ?_
    refine ev_iload_n d_ContentType_takeInHand_25 rfl rfl ?_
    refine ev_if_eq (tgt := 36) d_ContentType_takeInHand_26 (by decide) (fun z => absurd z (by decide)) (fun _ => ?_)
    refine ev_aload_n d_ContentType_takeInHand_29 rfl rfl ?_
    refine ev_aload_n d_ContentType_takeInHand_30 rfl rfl ?_
    refine ev_iconst (v := 0) d_ContentType_takeInHand_31 (by decide) ?_
    refine ev_Vv (ci := 8) [.ref (X + 2), .int (nI 0)] [] ca_ContentType_takeInHand_96 d_ContentType_takeInHand_32 rfl (O1.1) rfl (Nat.le_of_ble_eq_true rfl) (y_firstOf hNm hT S1 O1 HQ1 (by rw [hT1]; exact hT2) (nI 0)) ?_
    rw [hT1]
    refine ev_istore_n d_ContentType_takeInHand_35 rfl (by decide) ?_
    refine ev_iload_n d_ContentType_takeInHand_36 rfl rfl ?_
    refine ev_iconst (v := (-1)) d_ContentType_takeInHand_37 (by decide) ?_
    rcases pmF_pick T (nI 0) Q 0 with ⟨j1, j2⟩ | ⟨k, q, j1, j2, j3, j4⟩
    · rw [j2]
      refine ev_icmp_ne (tgt := 43) d_ContentType_takeInHand_38 (by decide) (fun z => absurd rfl z) (fun _ => ?_)
      have hh : hdOf T Q = none := by
        unfold hdOf
        rw [k1]
        simp only
        rw [show pick T 0 Q = none from j1]
      refine ev_iconst (v := (-1)) d_ContentType_takeInHand_41 (by decide) ?_
      refine ev_iret d_ContentType_takeInHand_42 rfl ?_
      rw [hh]
      exact ⟨_, rfl, rfl, σ1, S1, r1, q1, H1⟩
    · rw [j3, Nat.zero_add k]
      have hkl := (List.getElem?_eq_some_iff.mp j2).1
      obtain ⟨-, -, b1, -⟩ := ctQ_v S1 HQ1 j2
      refine ev_icmp_ne (tgt := 43) d_ContentType_takeInHand_38 (by decide) (fun _ => ?_) (fun z => absurd z (fun z => nI_pos (n := k) (by omega) (by rw [z]; decide)))
      have hh : hdOf T Q = some (vlOf q ++ (bif true then more T Q 9 1 else []), chL q) := by
        unfold hdOf
        rw [k1]
        simp only
        rw [show pick T 0 Q = some q from j1]
        rfl
      exact ev_as [(0, .ref (X + 40)), (1, .ref (X + 2)), (2, .int (nI k)), (3, .int (bI true))] ⟨rfl, rfl, rfl, rfl, trivial⟩ (a43 k q true j2 (by rw [j4]; decide) (fun _ => j4) hh)
  · rw [k3, Nat.zero_add k]
    have hkl := (List.getElem?_eq_some_iff.mp k2).1
    obtain ⟨-, -, b1, -⟩ := ctQ_v S1 HQ1 k2
    have hne : ¬ nI k = -1 := fun z => nI_pos (n := k) (by omega) (by rw [z]; decide)
    refine ev_icmp_ne (tgt := 23) d_ContentType_takeInHand_16 (by decide) (fun _ => ?_) (fun z => absurd z hne)
    refine ev_iconst (v := 0) d_ContentType_takeInHand_23 (by decide) ?_
    refine ev_istore_n d_ContentType_takeInHand_24 rfl (by decide) ?_
    refine ev_iload_n d_ContentType_takeInHand_25 rfl rfl ?_
    refine ev_if_eq (tgt := 36) d_ContentType_takeInHand_26 (by decide) (fun _ => ?_) (fun z => absurd rfl z)
    refine ev_iload_n d_ContentType_takeInHand_36 rfl rfl ?_
    refine ev_iconst (v := (-1)) d_ContentType_takeInHand_37 (by decide) ?_
    refine ev_icmp_ne (tgt := 43) d_ContentType_takeInHand_38 (by decide) (fun _ => ?_) (fun z => absurd z hne)
    have hh : hdOf T Q = some (vlOf q ++ (bif false then more T Q 9 1 else []), chL q) := by
      unfold hdOf
      rw [k1, cond_false, List.append_nil]
    exact ev_as [(0, .ref (X + 40)), (1, .ref (X + 2)), (2, .int (nI k)), (3, .int (bI false))] ⟨rfl, rfl, rfl, rfl, trivial⟩ (a43 k q false k2 (by rw [k4]; decide) (fun z => by cases z) hh)
end HAND4
