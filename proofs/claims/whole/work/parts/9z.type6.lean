theorem rg_sub {l : List Int32} {n d : Nat} (hn : n < 2 ^ 30) (hd : d < 2 ^ 30) : rg l (nI n - nI d) = if d ≤ n then l.getD (n - d) (-1) else -1 := by
  by_cases h : d ≤ n
  · rw [if_pos h, pk_sub h, rg_nat (by omega)]
  · rw [if_neg h]
    exact rg_neg (pk_sneg (by omega) (by omega))
theorem getD_in {l : List Int32} {j : Nat} (h : j < l.length) (a b : Int32) : l.getD j a = l.getD j b := by
  rw [List.getD_eq_getElem?_getD, List.getD_eq_getElem?_getD, List.getElem?_eq_getElem h]
  rfl
/-- the rows of parameters -/
abbrev ctP : List Nat := [47, 49, 52, 54, 56, 58]
/-- the class's kinds and texts of words -/
def wm (w : Int32 × Int32 × List Int32) : Int32 × List Int32 := (cK w, w.2.2)
section TYP6
variable {G : gl_G} {cI : ClassId} {X : Nat}
theorem kd_at {σ : rwT} {N : Wds} {op : List Int32} (H : wdH σ (N.map wm) op) (hN : N.length < 2 ^ 30) (j : Nat) (hj : j < 2 ^ 30) : rg (σ 16).2.2 (nI j) = match N[j]? with
    | none => -1
    | some w => cK w := by
  rw [H.2, List.map_map, rg_nat (by omega), List.getD_eq_getElem?_getD, List.getElem?_map]
  cases N[j]? with
  | none => rfl
  | some w => rfl
theorem tx_atN {N : Wds} {j : Nat} {w : Int32 × Int32 × List Int32} (h : N[j]? = some w) : ((N.map wm).map (fun w => w.2))[j]? = some w.2.2 := by
  rw [List.getElem?_map, List.getElem?_map, h]
  rfl
/-- what the names and values of parameters may hold -/
def qB (Q : List Prm) (b : Nat) : Prop := Q.length ≤ b ∧ (Q.map (fun q => q.1.map sp_small)).flatten.length ≤ b ∧ (Q.map (fun q => q.2.2.2)).flatten.length ≤ b
theorem pi_dg {c : Int32} : (if ¬ sp_digit c = 0 then c - 48 else (-1 : Int32)) = sp_dig c := by
  unfold sp_digit sp_dig
  by_cases h : ¬ c < 48 ∧ ¬ 57 < c
  · rw [if_pos h, if_pos h, if_pos (by decide)]
  · rw [if_neg h, if_neg h, if_neg (fun z => z rfl)]
theorem dg_ne {c : Int32} (h : ¬ sp_digit c = 0) : ¬ c - 48 = -1 := by
  unfold sp_digit at h
  by_cases q : ¬ c < 48 ∧ ¬ 57 < c
  · obtain ⟨n, hn, rfl⟩ := nI_of (x := c) (fun z => q.1 (Int32.lt_trans z (by decide)))
    have h1 : 48 ≤ n := by
      rcases Nat.lt_or_ge n 48 with z | z
      · exact absurd (nI_lt (b := 48) z (by decide)) q.1
      · exact z
    rw [show nI n - 48 = nI (n - 48) from pk_sub (b := 48) h1]
    exact fun z => nI_pos (n := n - 48) (by omega) (by rw [z]; decide)
  · rw [if_neg q] at h
    exact absurd rfl h
theorem z_takePY (hNm : gl_nm G) (hT : (gl_t G)[0]? = some (cI, .int)) {h : hp_T} {σ : rwT} (S : tS cI X h σ) (O : cO X h) {N : Wds} (hN : ∀ w ∈ N, wfW w) (hNl : N.length ≤ 1501) (hW : wdB (N.map wm) ≤ 1501) (W : wdH σ (N.map wm) []) {Q : List Prm} (HQ : ctQ σ Q) (hQ : qB Q 1501) {i : Nat} (hi : i < 2 ^ 29) {wa ws wv : Int32 × Int32 × List Int32} (ha : N[i]? = some wa) (hs : N[i + 1]? = some ws) (hv : N[i + 2]? = some wv) (h4 : wa.1 = 4) (h61 : wIs ws 61 = true) (hwv : wv.1 = 4 ∨ wv.1 = 1) : ct_E G m_ContentType_takeParameter [.ref (X + 40), .int (nI i)] h (cn (tP cI X h σ ctP (fun σ' => ctQ σ' (Q ++ (prmN (N.drop i)).toList)))) := by
  have m11 : (11 : Nat) ∈ txs := by decide
  have m46 : (46 : Nat) ∈ txs := by decide
  have m51 : (51 : Nat) ∈ txs := by decide
  have m16 : (16 : Nat) ∈ rws := by decide
  have m56 : (56 : Nat) ∈ rws := by decide
  have m58 : (58 : Nat) ∈ rws := by decide
  obtain ⟨hA, r, hWd⟩ := id O
  have k0 : rg (σ 16).2.2 (nI i) = 1 := by rw [kd_at W (by omega) i (by omega), ha]; exact (cK_1 (hN wa (List.mem_of_getElem? ha))).mpr h4
  have k1 : rg (σ 16).2.2 (nI (i + 1)) = 61 := by rw [kd_at W (by omega) (i + 1) (by omega), hs]; exact (cK_s (hN ws (List.mem_of_getElem? hs)) (by decide)).mpr h61
  have k2 : rg (σ 16).2.2 (nI (i + 2)) = 1 ∨ rg (σ 16).2.2 (nI (i + 2)) = 2 := by
    rw [kd_at W (by omega) (i + 2) (by omega), hv]
    exact hwv.imp (fun z => (cK_1 (hN wv (List.mem_of_getElem? hv))).mpr z) (fun z => (cK_2 (hN wv (List.mem_of_getElem? hv))).mpr z)
  have ta := tx_atN ha
  have tv := tx_atN hv
  have hLl : ((N.map wm).map (fun w => w.2)).length < 2 ^ 30 := by rw [List.length_map, List.length_map]; omega
  have hLb : ((N.map wm).map (fun w => w.2)).flatten.length ≤ 1501 := hW
  have hal : wa.2.2.length ≤ 1501 := by
    obtain ⟨e1, -⟩ := flat_take ta
    have := congrArg List.length e1
    simp only [List.length_append] at this
    omega
  have hvl : wv.2.2.length ≤ 1501 := by
    obtain ⟨e1, -⟩ := flat_take tv
    have := congrArg List.length e1
    simp only [List.length_append] at this
    omega
  have eb : ∀ x : Int32, btO (σ (11 + 1)).2.2 (σ (11 + 3)).2.2 (nI i) x = rg wa.2.2 x := fun x => by
    rw [show (σ (11 + 1)).2.2 = _ from W.1.1, show (σ (11 + 3)).2.2 = _ from W.1.2]
    exact btT hLl (by omega) ta x
  have hpr : prmN (N.drop i) = if n2N wa.2.2 = 0 then none else some (wa.2.2.take (n2N wa.2.2), piN wa.2.2, cdN wa.2.2, wv.2.2) := by
    unfold prmN
    rw [show (N.drop i)[0]? = some wa by rw [List.getElem?_drop]; exact ha, show (N.drop i)[1]? = some ws by rw [List.getElem?_drop]; exact hs, show (N.drop i)[2]? = some wv by rw [List.getElem?_drop]; exact hv]
    simp only
    by_cases hz : n2N wa.2.2 = 0
    · rw [if_neg (fun z => z.2.2.2 hz), if_pos hz]
    · rw [if_pos ⟨h4, h61, hwv, hz⟩, if_neg hz]
  generalize hnm : wa.2.2 = nm at *
  have hn1 := n1N_le nm
  have hn2 := n2N_le nm
  obtain ⟨qb1, qb2, qb3⟩ := hQ
  have a164 : ∀ kd vl : Int32, ¬ n2N nm = 0 → ev_E G m_ContentType_takeParameter 164 [(0, .ref (X + 40)), (1, .int (nI i)), (2, .int kd), (3, .int vl), (4, .ref (X + 11)), (5, .int (nI (n2N nm))), (6, .int (bI (cdN nm))), (7, .int (piN nm))] [] h (cn (tP cI X h σ ctP (fun σ' => ctQ σ' (Q ++ (prmN (N.drop i)).toList)))) := by
    intro kd vl hz
    rw [hpr, if_neg hz]
    refine ev_aload_n d_ContentType_takeParameter_164 rfl rfl ?_
    refine ev_get (fa_ContentType_22 rfl rfl) d_ContentType_takeParameter_165 hA rfl ?_
    refine ev_aload d_ContentType_takeParameter_168 rfl ?_
    refine ev_iload_n d_ContentType_takeParameter_170 rfl rfl ?_
    refine ev_iload d_ContentType_takeParameter_171 rfl ?_
    refine ev_Vn (ci := 3) [.ref (X + 11), .int (nI i), .int (nI (n2N nm))] [] ca_ContentType_takeParameter_75 d_ContentType_takeParameter_173 rfl ((S.2 46 m46)) rfl (Nat.le_of_ble_eq_true rfl) (y_putSmall hNm hT S m46 m11 (by decide) HQ.1 W.1 ta hLl (by omega) (by omega) (by rw [List.length_nil]; omega)) (fun h1 z => ?_)
    obtain ⟨σ1, S1, r1, p1, H1⟩ := z
    have O1 := cO_go S r1 O
    refine ev_aload_n d_ContentType_takeParameter_176 rfl rfl ?_
    refine ev_get (fa_ContentType_22 rfl rfl) d_ContentType_takeParameter_177 O1.1 rfl ?_
    refine ev_Vn (ci := 3) [] [] ca_ContentType_takeParameter_79 d_ContentType_takeParameter_180 rfl ((S1.2 46 m46)) rfl (Nat.le_of_ble_eq_true rfl) (y_close hT S1 m46 H1 (by rw [List.length_map]; omega)) (fun h1 z => ?_)
    obtain ⟨σ2, S2, r2, p2, H2⟩ := z
    have O2 := cO_go S1 r2 O1
    have V2 : txH σ2 51 (Q.map (fun q => q.2.2.2)) [] := txH_same HQ.2.1 ((p2 52 (by decide)).trans (p1 52 (by decide))) ((p2 54 (by decide)).trans (p1 54 (by decide)))
    have W2 : txH σ2 11 ((N.map wm).map (fun w => w.2)) [] := txH_same W.1 ((p2 12 (by decide)).trans (p1 12 (by decide))) ((p2 14 (by decide)).trans (p1 14 (by decide)))
    refine ev_aload_n d_ContentType_takeParameter_183 rfl rfl ?_
    refine ev_get (fa_ContentType_25 rfl rfl) d_ContentType_takeParameter_184 O2.1 rfl ?_
    refine ev_aload d_ContentType_takeParameter_187 rfl ?_
    refine ev_iload_n d_ContentType_takeParameter_189 rfl rfl ?_
    refine ev_iconst (v := 2) d_ContentType_takeParameter_190 (by decide) ?_
    refine ev_iadd d_ContentType_takeParameter_191 ?_
    rw [show nI i + 2 = nI (i + 2) from nI_add i 2]
    refine ev_Vn (ci := 3) [.ref (X + 11), .int (nI (i + 2))] [] ca_ContentType_takeParameter_89 d_ContentType_takeParameter_192 rfl ((S2.2 51 m51)) rfl (Nat.le_of_ble_eq_true rfl) (y_putText hT S2 m51 m11 (by decide) V2 W2 tv hLl (by omega) (by rw [List.length_nil]; omega)) (fun h1 z => ?_)
    obtain ⟨σ3, S3, r3, p3, H3⟩ := z
    have O3 := cO_go S2 r3 O2
    refine ev_aload_n d_ContentType_takeParameter_195 rfl rfl ?_
    refine ev_get (fa_ContentType_25 rfl rfl) d_ContentType_takeParameter_196 O3.1 rfl ?_
    refine ev_Vn (ci := 3) [] [] ca_ContentType_takeParameter_79 d_ContentType_takeParameter_199 rfl ((S3.2 51 m51)) rfl (Nat.le_of_ble_eq_true rfl) (y_close hT S3 m51 H3 (by rw [List.length_map]; omega)) (fun h1 z => ?_)
    obtain ⟨σ4, S4, r4, p4, H4⟩ := z
    have O4 := cO_go S3 r4 O3
    refine ev_aload_n d_ContentType_takeParameter_202 rfl rfl ?_
    refine ev_get (fa_ContentType_31 rfl rfl) d_ContentType_takeParameter_203 O4.1 rfl ?_
    refine ev_iload d_ContentType_takeParameter_206 rfl ?_
    refine ev_Vn (ci := 1) [.int (piN nm)] [] ca_ContentType_takeParameter_93 d_ContentType_takeParameter_208 rfl ((S4.1.1 _ m56).1.1) rfl (Nat.le_of_ble_eq_true rfl) (w_radd hT S4 m56 (piN nm)) (fun h1 z => ?_)
    obtain ⟨σ5, S5, r5, p5, q5⟩ := z
    have O5 := cO_go S4 r5 O4
    have r15 := rwR_tr r1 (rwR_tr r2 (rwR_tr r3 (rwR_tr r4 r5)))
    have p15 : ∀ τ, τ ∉ ctP → (σ5 τ).2.2 = (σ τ).2.2 := fun τ hτ => (sub1 p5 (by decide) τ hτ).trans ((sub1 p4 (by decide) τ hτ).trans ((sub1 p3 (by decide) τ hτ).trans ((sub1 p2 (by decide) τ hτ).trans (sub1 p1 (by decide) τ hτ))))
    have e56 : (σ5 56).2.2 = (Q ++ [(nm.take (n2N nm), piN nm, cdN nm, wv.2.2)]).map (fun q => q.2.1) := by
      rw [q5, p4 56 (by decide), p3 56 (by decide), p2 56 (by decide), p1 56 (by decide), HQ.2.2.1, addR, if_pos (by rw [List.length_map]; omega), List.map_append]
      rfl
    have e46 : txH σ5 46 ((Q ++ [(nm.take (n2N nm), piN nm, cdN nm, wv.2.2)]).map (fun q => q.1.map sp_small)) [] := by
      have := txH_same H2 ((p5 47 (by decide)).trans ((p4 47 (by decide)).trans (p3 47 (by decide)))) ((p5 49 (by decide)).trans ((p4 49 (by decide)).trans (p3 49 (by decide))))
      rw [List.map_append]
      exact this
    have e51 : txH σ5 51 ((Q ++ [(nm.take (n2N nm), piN nm, cdN nm, wv.2.2)]).map (fun q => q.2.2.2)) [] := by
      have := txH_same H4 (p5 52 (by decide)) (p5 54 (by decide))
      rw [List.map_append]
      exact this
    have e58 : (σ5 58).2.2 = Q.map (fun q => bI q.2.2.1) := by rw [p5 58 (by decide), p4 58 (by decide), p3 58 (by decide), p2 58 (by decide), p1 58 (by decide)]; exact HQ.2.2.2
    have fin : ∀ h6 : hp_T, tP cI X h1 σ5 [58] (fun σ' => (σ' 58).2.2 = addR (σ5 58).2.2 (bI (cdN nm))) h6 → tP cI X h σ ctP (fun σ' => ctQ σ' (Q ++ (some (nm.take (n2N nm), piN nm, cdN nm, wv.2.2)).toList)) h6 := by
      rintro h6 ⟨σ6, S6, r6, p6, q6⟩
      refine ⟨σ6, S6, rwR_tr r15 r6, fun τ hτ => (sub1 p6 (by decide) τ hτ).trans (p15 τ hτ), txH_same e46 (p6 47 (by decide)) (p6 49 (by decide)), txH_same e51 (p6 52 (by decide)) (p6 54 (by decide)), (p6 56 (by decide)).trans e56, ?_⟩
      rw [q6, e58, addR, if_pos (by rw [List.length_map]; omega)]
      simp
    refine ev_aload_n d_ContentType_takeParameter_211 rfl rfl ?_
    refine ev_get (fa_ContentType_35 rfl rfl) d_ContentType_takeParameter_212 O5.1 rfl ?_
    refine ev_iload d_ContentType_takeParameter_215 rfl ?_
    cases hcd : cdN nm with
    | false =>
      rw [hcd] at fin
      refine ev_if_eq (tgt := 224) d_ContentType_takeParameter_217 (by decide) (fun _ => ?_) (fun z => absurd rfl z)
      refine ev_iconst (v := 0) d_ContentType_takeParameter_224 (by decide) ?_
      refine ev_Vn (ci := 1) [.int 0] [] ca_ContentType_takeParameter_93 d_ContentType_takeParameter_225 rfl ((S5.1.1 _ m58).1.1) rfl (Nat.le_of_ble_eq_true rfl) (w_radd hT S5 m58 0) (fun h1 z => ?_)
      refine ev_vret d_ContentType_takeParameter_228 rfl ?_
      exact ⟨rfl, fin _ ‹_›⟩
    | true =>
      rw [hcd] at fin
      refine ev_if_eq (tgt := 224) d_ContentType_takeParameter_217 (by decide) (fun z => absurd (show (1 : Int32) = 0 from z) (by decide)) (fun _ => ?_)
      refine ev_iconst (v := 1) d_ContentType_takeParameter_220 (by decide) ?_
      refine ev_goto (tgt := 225) d_ContentType_takeParameter_221 (by decide) ?_
      refine ev_Vn (ci := 1) [.int 1] [] ca_ContentType_takeParameter_93 d_ContentType_takeParameter_225 rfl ((S5.1.1 _ m58).1.1) rfl (Nat.le_of_ble_eq_true rfl) (w_radd hT S5 m58 1) (fun h1 z => ?_)
      refine ev_vret d_ContentType_takeParameter_228 rfl ?_
      exact ⟨rfl, fin _ ‹_›⟩
  have a158 : ∀ kd vl : Int32, ev_E G m_ContentType_takeParameter 158 [(0, .ref (X + 40)), (1, .int (nI i)), (2, .int kd), (3, .int vl), (4, .ref (X + 11)), (5, .int (nI (n2N nm))), (6, .int (bI (cdN nm))), (7, .int (piN nm))] [] h (cn (tP cI X h σ ctP (fun σ' => ctQ σ' (Q ++ (prmN (N.drop i)).toList)))) := by
    intro kd vl
    refine ev_iload d_ContentType_takeParameter_158 rfl ?_
    by_cases hz : n2N nm = 0
    · rw [hz]
      refine ev_if_gt (tgt := 164) d_ContentType_takeParameter_160 (by decide) (fun z => absurd z (by decide)) (fun _ => ?_)
      refine ev_vret d_ContentType_takeParameter_163 rfl ?_
      rw [hpr, if_pos hz]
      exact ⟨rfl, σ, S, rwR_rf, fun _ _ => rfl, by simpa using HQ⟩
    · refine ev_if_gt (tgt := 164) d_ContentType_takeParameter_160 (by decide) (fun _ => ?_) (fun z => absurd (show nI 0 < nI (n2N nm) from nI_lt (by omega) (by omega)) z)
      exact a164 kd vl hz
  have a147 : ∀ kd vl : Int32, ev_E G m_ContentType_takeParameter 147 [(0, .ref (X + 40)), (1, .int (nI i)), (2, .int kd), (3, .int vl), (4, .ref (X + 11)), (5, .int (nI (n1N nm))), (6, .int (bI (cdN nm)))] [.int (piN nm)] h (cn (tP cI X h σ ctP (fun σ' => ctQ σ' (Q ++ (prmN (N.drop i)).toList)))) := by
    intro kd vl
    refine ev_istore d_ContentType_takeParameter_147 (by decide) ?_
    refine ev_iload d_ContentType_takeParameter_149 rfl ?_
    refine ev_iconst (v := (-1)) d_ContentType_takeParameter_151 (by decide) ?_
    cases hp : pcN nm with
    | false =>
      have e1 : piN nm = -1 := by unfold piN; rw [hp]; rfl
      have e2 : n2N nm = n1N nm := by unfold n2N; rw [hp]; rfl
      refine ev_icmp_eq (tgt := 158) d_ContentType_takeParameter_152 (by decide) (fun _ => ?_) (fun z => absurd e1 z)
      rw [← e2]
      exact a158 kd vl
    | true =>
      have hp' : 2 ≤ n1N nm ∧ ¬ sp_digit (nm.getD (n1N nm - 1) 0) = 0 ∧ nm.getD (n1N nm - 2) 0 = 42 := by
        simpa [pcN] using hp
      have e1 : piN nm = nm.getD (n1N nm - 1) 0 - 48 := by unfold piN; rw [hp]; rfl
      have e2 : n2N nm = n1N nm - 2 := by unfold n2N; rw [hp]; rfl
      refine ev_icmp_eq (tgt := 158) d_ContentType_takeParameter_152 (by decide) (fun z => absurd z (by rw [e1]; exact dg_ne hp'.2.1)) (fun _ => ?_)
      refine ev_iinc d_ContentType_takeParameter_155 rfl (by decide) ?_
      refine ev_as [(0, .ref (X + 40)), (1, .int (nI i)), (2, .int kd), (3, .int vl), (4, .ref (X + 11)), (5, .int (nI (n2N nm))), (6, .int (bI (cdN nm))), (7, .int (piN nm))] ⟨rfl, rfl, rfl, rfl, rfl, ?_, rfl, rfl, trivial⟩ (a158 kd vl)
      show some (Value.int (nI (n1N nm) + Int32.ofInt (-2))) = _
      rw [show nI (n1N nm) + Int32.ofInt (-2) = nI (n1N nm) - nI 2 from by rw [Int32.sub_eq_add_neg]; rfl, pk_sub hp'.1, e2]
  have a115 : ∀ kd vl : Int32, ev_E G m_ContentType_takeParameter 115 [(0, .ref (X + 40)), (1, .int (nI i)), (2, .int kd), (3, .int vl), (4, .ref (X + 11)), (5, .int (nI (n1N nm))), (6, .int (bI (cdN nm)))] [] h (cn (tP cI X h σ ctP (fun σ' => ctQ σ' (Q ++ (prmN (N.drop i)).toList)))) := by
    intro kd vl
    refine ev_aload d_ContentType_takeParameter_115 rfl ?_
    refine ev_iload_n d_ContentType_takeParameter_117 rfl rfl ?_
    refine ev_iload d_ContentType_takeParameter_118 rfl ?_
    refine ev_iconst (v := 2) d_ContentType_takeParameter_120 (by decide) ?_
    refine ev_isub d_ContentType_takeParameter_121 ?_
    refine ev_Vv (ci := 3) [.int (nI i), .int (nI (n1N nm) - nI 2)] [] ca_ContentType_takeParameter_82 d_ContentType_takeParameter_122 rfl ((S.2 11 m11)) rfl (Nat.le_of_ble_eq_true rfl) (w_byteOf hT S m11 (nI i) (nI (n1N nm) - nI 2)) ?_
    rw [eb, rg_sub (by omega) (by decide)]
    refine ev_bipush (v := 42) d_ContentType_takeParameter_125 (by decide) ?_
    by_cases h2 : 2 ≤ n1N nm ∧ nm.getD (n1N nm - 2) 0 = 42
    · have g2 : (if 2 ≤ n1N nm then nm.getD (n1N nm - 2) (-1) else -1) = 42 := by
        rw [if_pos h2.1, getD_in (show n1N nm - 2 < nm.length by omega) (-1) 0]; exact h2.2
      rw [g2]
      refine ev_icmp_ne (tgt := 146) d_ContentType_takeParameter_127 (by decide) (fun z => absurd rfl z) (fun _ => ?_)
      refine ev_aload d_ContentType_takeParameter_130 rfl ?_
      refine ev_iload_n d_ContentType_takeParameter_132 rfl rfl ?_
      refine ev_iload d_ContentType_takeParameter_133 rfl ?_
      refine ev_iconst (v := 1) d_ContentType_takeParameter_135 (by decide) ?_
      refine ev_isub d_ContentType_takeParameter_136 ?_
      refine ev_Vv (ci := 3) [.int (nI i), .int (nI (n1N nm) - nI 1)] [] ca_ContentType_takeParameter_82 d_ContentType_takeParameter_137 rfl ((S.2 11 m11)) rfl (Nat.le_of_ble_eq_true rfl) (w_byteOf hT S m11 (nI i) (nI (n1N nm) - nI 1)) ?_
      rw [eb, rg_sub (by omega) (by decide), if_pos (show 1 ≤ n1N nm by omega), getD_in (show n1N nm - 1 < nm.length by omega) (-1) 0]
      refine ev_Nv hNm [.int _] [] cn_ContentType_takeParameter_86 d_ContentType_takeParameter_140 rfl (Nat.le_of_ble_eq_true rfl) (w_digit _) ?_
      have e3 : sp_dig (nm.getD (n1N nm - 1) 0) = piN nm := by
        rw [← pi_dg]
        unfold piN pcN
        by_cases hd : ¬ sp_digit (nm.getD (n1N nm - 1) 0) = 0
        · rw [if_pos hd, if_pos (decide_eq_true ⟨h2.1, hd, h2.2⟩)]
        · rw [if_neg hd, if_neg (fun z => hd (of_decide_eq_true z).2.1)]
      rw [e3]
      refine ev_goto (tgt := 147) d_ContentType_takeParameter_143 (by decide) ?_
      exact a147 kd vl
    · have g2 : ¬ (if 2 ≤ n1N nm then nm.getD (n1N nm - 2) (-1) else -1) = 42 := by
        by_cases hq : 2 ≤ n1N nm
        · rw [if_pos hq, getD_in (show n1N nm - 2 < nm.length by omega) (-1) 0]
          exact fun z => h2 ⟨hq, z⟩
        · rw [if_neg hq]; decide
      refine ev_icmp_ne (tgt := 146) d_ContentType_takeParameter_127 (by decide) (fun _ => ?_) (fun z => absurd z g2)
      have e3 : piN nm = -1 := by
        unfold piN pcN
        rw [if_neg (fun z => h2 ⟨(of_decide_eq_true z).1, (of_decide_eq_true z).2.2⟩)]
      have := a147 kd vl
      rw [e3] at this
      refine ev_iconst (v := (-1)) d_ContentType_takeParameter_146 (by decide) ?_
      exact this
  have a68 : ∀ kd vl : Int32, ev_E G m_ContentType_takeParameter 68 [(0, .ref (X + 40)), (1, .int (nI i)), (2, .int kd), (3, .int vl)] [] h (cn (tP cI X h σ ctP (fun σ' => ctQ σ' (Q ++ (prmN (N.drop i)).toList)))) := by
    intro kd vl
    refine ev_aload_n d_ContentType_takeParameter_68 rfl rfl ?_
    refine ev_get (fa_ContentType_9 rfl rfl) d_ContentType_takeParameter_69 hA rfl ?_
    refine ev_Vv (ci := 4) [] [] ca_ContentType_takeParameter_68 d_ContentType_takeParameter_72 rfl (hWd) rfl (Nat.le_of_ble_eq_true rfl) (w_wtexts hWd) ?_
    refine ev_astore d_ContentType_takeParameter_75 (by decide) ?_
    refine ev_aload d_ContentType_takeParameter_77 rfl ?_
    refine ev_iload_n d_ContentType_takeParameter_79 rfl rfl ?_
    refine ev_Vv (ci := 3) [.int (nI i)] [] ca_ContentType_takeParameter_72 d_ContentType_takeParameter_80 rfl ((S.2 11 m11)) rfl (Nat.le_of_ble_eq_true rfl) (w_sizeOf hT S m11 (nI i)) ?_
    rw [show szO (σ (11 + 3)).2.2 (nI i) = nI nm.length from by rw [show (σ (11 + 3)).2.2 = _ from W.1.2]; exact szT hLl ta]
    refine ev_istore d_ContentType_takeParameter_83 (by decide) ?_
    refine ev_aload d_ContentType_takeParameter_85 rfl ?_
    refine ev_iload_n d_ContentType_takeParameter_87 rfl rfl ?_
    refine ev_iload d_ContentType_takeParameter_88 rfl ?_
    refine ev_iconst (v := 1) d_ContentType_takeParameter_90 (by decide) ?_
    refine ev_isub d_ContentType_takeParameter_91 ?_
    refine ev_Vv (ci := 3) [.int (nI i), .int (nI nm.length - nI 1)] [] ca_ContentType_takeParameter_82 d_ContentType_takeParameter_92 rfl ((S.2 11 m11)) rfl (Nat.le_of_ble_eq_true rfl) (w_byteOf hT S m11 (nI i) (nI nm.length - nI 1)) ?_
    rw [eb, rg_sub (by omega) (by decide)]
    refine ev_bipush (v := 42) d_ContentType_takeParameter_95 (by decide) ?_
    cases hcd : cdN nm with
    | true =>
      have hc : 0 < nm.length ∧ nm.getD (nm.length - 1) 0 = 42 := by simpa [cdN] using hcd
      have e1 : n1N nm = nm.length - 1 := by unfold n1N; rw [hcd]; rfl
      rw [if_pos (show 1 ≤ nm.length by omega), getD_in (show nm.length - 1 < nm.length by omega) (-1) 0, hc.2]
      refine ev_icmp_ne (tgt := 104) d_ContentType_takeParameter_97 (by decide) (fun z => absurd rfl z) (fun _ => ?_)
      refine ev_iconst (v := 1) d_ContentType_takeParameter_100 (by decide) ?_
      refine ev_goto (tgt := 105) d_ContentType_takeParameter_101 (by decide) ?_
      refine ev_istore d_ContentType_takeParameter_105 (by decide) ?_
      refine ev_iload d_ContentType_takeParameter_107 rfl ?_
      refine ev_if_eq (tgt := 115) d_ContentType_takeParameter_109 (by decide) (fun z => absurd z (by decide)) (fun _ => ?_)
      refine ev_iinc d_ContentType_takeParameter_112 rfl (by decide) ?_
      have := a115 kd vl
      rw [hcd, e1] at this
      refine ev_as [(0, .ref (X + 40)), (1, .int (nI i)), (2, .int kd), (3, .int vl), (4, .ref (X + 11)), (5, .int (nI (nm.length - 1))), (6, .int (bI true))] ⟨rfl, rfl, rfl, rfl, rfl, ?_, rfl, trivial⟩ this
      show some (Value.int (nI nm.length + Int32.ofInt (-1))) = _
      rw [show nI nm.length + Int32.ofInt (-1) = nI nm.length - nI 1 from by rw [Int32.sub_eq_add_neg]; rfl, pk_sub (show 1 ≤ nm.length by omega)]
    | false =>
      have hc : ¬ (0 < nm.length ∧ nm.getD (nm.length - 1) 0 = 42) := by simpa [cdN] using hcd
      have e1 : n1N nm = nm.length := by unfold n1N; rw [hcd]; rfl
      have g2 : ¬ (if 1 ≤ nm.length then nm.getD (nm.length - 1) (-1) else -1) = 42 := by
        by_cases hq : 1 ≤ nm.length
        · rw [if_pos hq, getD_in (show nm.length - 1 < nm.length by omega) (-1) 0]
          exact fun z => hc ⟨by omega, z⟩
        · rw [if_neg hq]; decide
      refine ev_icmp_ne (tgt := 104) d_ContentType_takeParameter_97 (by decide) (fun _ => ?_) (fun z => absurd z g2)
      refine ev_iconst (v := 0) d_ContentType_takeParameter_104 (by decide) ?_
      refine ev_istore d_ContentType_takeParameter_105 (by decide) ?_
      refine ev_iload d_ContentType_takeParameter_107 rfl ?_
      refine ev_if_eq (tgt := 115) d_ContentType_takeParameter_109 (by decide) (fun _ => ?_) (fun z => absurd rfl z)
      have := a115 kd vl
      rw [hcd, e1] at this
      exact this
  have a29 : ∀ kd : Int32, ev_E G m_ContentType_takeParameter 29 [(0, .ref (X + 40)), (1, .int (nI i)), (2, .int kd)] [.int 1] h (cn (tP cI X h σ ctP (fun σ' => ctQ σ' (Q ++ (prmN (N.drop i)).toList)))) := by
    intro kd
    refine ev_istore_n d_ContentType_takeParameter_29 rfl (by decide) ?_
    refine ev_aload_n d_ContentType_takeParameter_30 rfl rfl ?_
    refine ev_get (fa_ContentType_9 rfl rfl) d_ContentType_takeParameter_31 hA rfl ?_
    refine ev_Vv (ci := 4) [] [] ca_ContentType_takeParameter_48 d_ContentType_takeParameter_34 rfl (hWd) rfl (Nat.le_of_ble_eq_true rfl) (w_wkinds hWd) ?_
    refine ev_iload_n d_ContentType_takeParameter_37 rfl rfl ?_
    refine ev_Vv (ci := 1) [.int (nI i)] [] ca_ContentType_takeParameter_54 d_ContentType_takeParameter_38 rfl ((S.1.1 _ m16).1.1) rfl (Nat.le_of_ble_eq_true rfl) (w_get hT S.1 m16 (nI i)) ?_
    rw [k0]
    refine ev_iconst (v := 1) d_ContentType_takeParameter_41 (by decide) ?_
    refine ev_icmp_ne (tgt := 67) d_ContentType_takeParameter_42 (by decide) (fun z => absurd rfl z) (fun _ => ?_)
    refine ev_aload_n d_ContentType_takeParameter_45 rfl rfl ?_
    refine ev_get (fa_ContentType_9 rfl rfl) d_ContentType_takeParameter_46 hA rfl ?_
    refine ev_Vv (ci := 4) [] [] ca_ContentType_takeParameter_48 d_ContentType_takeParameter_49 rfl (hWd) rfl (Nat.le_of_ble_eq_true rfl) (w_wkinds hWd) ?_
    refine ev_iload_n d_ContentType_takeParameter_52 rfl rfl ?_
    refine ev_iconst (v := 1) d_ContentType_takeParameter_53 (by decide) ?_
    refine ev_iadd d_ContentType_takeParameter_54 ?_
    rw [nI_1]
    refine ev_Vv (ci := 1) [.int (nI (i + 1))] [] ca_ContentType_takeParameter_54 d_ContentType_takeParameter_55 rfl ((S.1.1 _ m16).1.1) rfl (Nat.le_of_ble_eq_true rfl) (w_get hT S.1 m16 (nI (i + 1))) ?_
    rw [k1]
    refine ev_bipush (v := 61) d_ContentType_takeParameter_58 (by decide) ?_
    refine ev_icmp_ne (tgt := 67) d_ContentType_takeParameter_60 (by decide) (fun z => absurd rfl z) (fun _ => ?_)
    refine ev_iload_n d_ContentType_takeParameter_63 rfl rfl ?_
    refine ev_if_ne (tgt := 68) d_ContentType_takeParameter_64 (by decide) (fun _ => ?_) (fun z => absurd z (by decide))
    exact a68 kd 1
  refine ct_of (ws' := tb_all) rfl rfl (Nat.le_of_ble_eq_true rfl) ?_
  refine ev_aload_n d_ContentType_takeParameter_0 rfl rfl ?_
  refine ev_get (fa_ContentType_9 rfl rfl) d_ContentType_takeParameter_1 hA rfl ?_
  refine ev_Vv (ci := 4) [] [] ca_ContentType_takeParameter_48 d_ContentType_takeParameter_4 rfl (hWd) rfl (Nat.le_of_ble_eq_true rfl) (w_wkinds hWd) ?_
  refine ev_iload_n d_ContentType_takeParameter_7 rfl rfl ?_
  refine ev_iconst (v := 2) d_ContentType_takeParameter_8 (by decide) ?_
  refine ev_iadd d_ContentType_takeParameter_9 ?_
  rw [show nI i + 2 = nI (i + 2) from nI_add i 2]
  refine ev_Vv (ci := 1) [.int (nI (i + 2))] [] ca_ContentType_takeParameter_54 d_ContentType_takeParameter_10 rfl ((S.1.1 _ m16).1.1) rfl (Nat.le_of_ble_eq_true rfl) (w_get hT S.1 m16 (nI (i + 2))) ?_
  generalize rg (σ 16).2.2 (nI (i + 2)) = kd at k2
  refine ev_istore_n d_ContentType_takeParameter_13 rfl (by decide) ?_
  refine ev_iload_n d_ContentType_takeParameter_14 rfl rfl ?_
  refine ev_iconst (v := 1) d_ContentType_takeParameter_15 (by decide) ?_
  by_cases q1 : kd = 1
  · refine ev_icmp_eq (tgt := 24) d_ContentType_takeParameter_16 (by decide) (fun _ => ?_) (fun z => absurd q1 z)
    refine ev_iconst (v := 1) d_ContentType_takeParameter_24 (by decide) ?_
    refine ev_goto (tgt := 29) d_ContentType_takeParameter_25 (by decide) ?_
    exact a29 kd
  · refine ev_icmp_eq (tgt := 24) d_ContentType_takeParameter_16 (by decide) (fun z => absurd z q1) (fun _ => ?_)
    refine ev_iload_n d_ContentType_takeParameter_19 rfl rfl ?_
    refine ev_iconst (v := 2) d_ContentType_takeParameter_20 (by decide) ?_
    refine ev_icmp_ne (tgt := 28) d_ContentType_takeParameter_21 (by decide) (fun z => absurd (k2.resolve_left q1) z) (fun _ => ?_)
    refine ev_iconst (v := 1) d_ContentType_takeParameter_24 (by decide) ?_
    refine ev_goto (tgt := 29) d_ContentType_takeParameter_25 (by decide) ?_
    exact a29 kd
theorem z_takeParameter (hNm : gl_nm G) (hT : (gl_t G)[0]? = some (cI, .int)) {h : hp_T} {σ : rwT} (S : tS cI X h σ) (O : cO X h) {N : Wds} (hN : ∀ w ∈ N, wfW w) (hNl : N.length ≤ 1501) (hW : wdB (N.map wm) ≤ 1501) (W : wdH σ (N.map wm) []) {Q : List Prm} (HQ : ctQ σ Q) (hQ : qB Q 1501) {i : Nat} (hi : i < 2 ^ 29) : ct_E G m_ContentType_takeParameter [.ref (X + 40), .int (nI i)] h (cn (tP cI X h σ ctP (fun σ' => ctQ σ' (Q ++ (prmN (N.drop i)).toList)))) := by
  have m11 : (11 : Nat) ∈ txs := by decide
  have m46 : (46 : Nat) ∈ txs := by decide
  have m51 : (51 : Nat) ∈ txs := by decide
  have m16 : (16 : Nat) ∈ rws := by decide
  have m56 : (56 : Nat) ∈ rws := by decide
  have m58 : (58 : Nat) ∈ rws := by decide
  obtain ⟨hA, r, hWd⟩ := id O
  have k0 := kd_at W (by omega) i (by omega)
  have k1 := kd_at W (by omega) (i + 1) (by omega)
  have k2 := kd_at W (by omega) (i + 2) (by omega)
  have eM : (N.drop i)[0]? = N[i]? ∧ (N.drop i)[1]? = N[i + 1]? ∧ (N.drop i)[2]? = N[i + 2]? := ⟨by rw [List.getElem?_drop]; rfl, by rw [List.getElem?_drop], by rw [List.getElem?_drop]⟩
  have nothing : prmN (N.drop i) = none → tP cI X h σ ctP (fun σ' => ctQ σ' (Q ++ (prmN (N.drop i)).toList)) h := by
    intro hp
    rw [hp]
    exact ⟨σ, S, rwR_rf, fun _ _ => rfl, by simpa using HQ⟩
  -- which words they are
  by_cases hyes : ∃ wa ws wv, N[i]? = some wa ∧ N[i + 1]? = some ws ∧ N[i + 2]? = some wv ∧ wa.1 = 4 ∧ wIs ws 61 = true ∧ (wv.1 = 4 ∨ wv.1 = 1)
  · obtain ⟨wa, ws, wv, ha, hs, hv, h4, h61, hwv⟩ := hyes
    exact z_takePY hNm hT S O hN hNl hW W HQ hQ hi ha hs hv h4 h61 hwv
  · have hp : prmN (N.drop i) = none := by
      unfold prmN
      rw [eM.1, eM.2.1, eM.2.2]
      cases ha : N[i]? with
      | none => rfl
      | some wa =>
        cases hs : N[i + 1]? with
        | none => rfl
        | some ws =>
          cases hv : N[i + 2]? with
          | none => rfl
          | some wv =>
            simp only
            rw [if_neg (fun z => hyes ⟨wa, ws, wv, ha, hs, hv, z.1, z.2.1, z.2.2.1⟩)]
    -- the class sees the same
    have hno : rg (σ 16).2.2 (nI i) = 1 → rg (σ 16).2.2 (nI (i + 1)) = 61 → ¬ (rg (σ 16).2.2 (nI (i + 2)) = 1 ∨ rg (σ 16).2.2 (nI (i + 2)) = 2) := by
      intro q0 q1 q2
      rw [k0] at q0
      rw [k1] at q1
      rw [k2] at q2
      cases ha : N[i]? with
      | none => rw [ha] at q0; exact absurd q0 (by decide)
      | some wa =>
        cases hs : N[i + 1]? with
        | none => rw [hs] at q1; exact absurd q1 (by decide)
        | some ws =>
          cases hv : N[i + 2]? with
          | none => rw [hv] at q2; exact q2.elim (by decide) (by decide)
          | some wv =>
            rw [ha] at q0; rw [hs] at q1; rw [hv] at q2
            simp only at q0 q1 q2
            refine hyes ⟨wa, ws, wv, ha, hs, hv, (cK_1 (hN wa (List.mem_of_getElem? ha))).mp q0, (cK_s (hN ws (List.mem_of_getElem? hs)) (by decide)).mp q1, ?_⟩
            rcases q2 with q2 | q2
            · exact Or.inl ((cK_1 (hN wv (List.mem_of_getElem? hv))).mp q2)
            · exact Or.inr ((cK_2 (hN wv (List.mem_of_getElem? hv))).mp q2)
    have n67 : ∀ kd vl : Int32, ev_E G m_ContentType_takeParameter 67 [(0, .ref (X + 40)), (1, .int (nI i)), (2, .int kd), (3, .int vl)] [] h (cn (tP cI X h σ ctP (fun σ' => ctQ σ' (Q ++ (prmN (N.drop i)).toList)))) := by
      intro kd vl
      refine ev_vret d_ContentType_takeParameter_67 rfl ?_
      exact ⟨rfl, nothing hp⟩
    have a29 : ∀ kd : Int32, ∀ b : Bool, (b = true → kd = 1 ∨ kd = 2) → kd = rg (σ 16).2.2 (nI (i + 2)) → ev_E G m_ContentType_takeParameter 29 [(0, .ref (X + 40)), (1, .int (nI i)), (2, .int kd)] [.int (bI b)] h (cn (tP cI X h σ ctP (fun σ' => ctQ σ' (Q ++ (prmN (N.drop i)).toList)))) := by
      intro kd b hb hkd
      refine ev_istore_n d_ContentType_takeParameter_29 rfl (by decide) ?_
      refine ev_aload_n d_ContentType_takeParameter_30 rfl rfl ?_
      refine ev_get (fa_ContentType_9 rfl rfl) d_ContentType_takeParameter_31 hA rfl ?_
      refine ev_Vv (ci := 4) [] [] ca_ContentType_takeParameter_48 d_ContentType_takeParameter_34 rfl (hWd) rfl (Nat.le_of_ble_eq_true rfl) (w_wkinds hWd) ?_
      refine ev_iload_n d_ContentType_takeParameter_37 rfl rfl ?_
      refine ev_Vv (ci := 1) [.int (nI i)] [] ca_ContentType_takeParameter_54 d_ContentType_takeParameter_38 rfl ((S.1.1 _ m16).1.1) rfl (Nat.le_of_ble_eq_true rfl) (w_get hT S.1 m16 (nI i)) ?_
      refine ev_iconst (v := 1) d_ContentType_takeParameter_41 (by decide) ?_
      by_cases q0 : rg (σ 16).2.2 (nI i) = 1
      · refine ev_icmp_ne (tgt := 67) d_ContentType_takeParameter_42 (by decide) (fun z => absurd q0 z) (fun _ => ?_)
        refine ev_aload_n d_ContentType_takeParameter_45 rfl rfl ?_
        refine ev_get (fa_ContentType_9 rfl rfl) d_ContentType_takeParameter_46 hA rfl ?_
        refine ev_Vv (ci := 4) [] [] ca_ContentType_takeParameter_48 d_ContentType_takeParameter_49 rfl (hWd) rfl (Nat.le_of_ble_eq_true rfl) (w_wkinds hWd) ?_
        refine ev_iload_n d_ContentType_takeParameter_52 rfl rfl ?_
        refine ev_iconst (v := 1) d_ContentType_takeParameter_53 (by decide) ?_
        refine ev_iadd d_ContentType_takeParameter_54 ?_
        rw [nI_1]
        refine ev_Vv (ci := 1) [.int (nI (i + 1))] [] ca_ContentType_takeParameter_54 d_ContentType_takeParameter_55 rfl ((S.1.1 _ m16).1.1) rfl (Nat.le_of_ble_eq_true rfl) (w_get hT S.1 m16 (nI (i + 1))) ?_
        refine ev_bipush (v := 61) d_ContentType_takeParameter_58 (by decide) ?_
        by_cases q1 : rg (σ 16).2.2 (nI (i + 1)) = 61
        · refine ev_icmp_ne (tgt := 67) d_ContentType_takeParameter_60 (by decide) (fun z => absurd q1 z) (fun _ => ?_)
          refine ev_iload_n d_ContentType_takeParameter_63 rfl rfl ?_
          cases b with
          | false =>
            refine ev_if_ne (tgt := 68) d_ContentType_takeParameter_64 (by decide) (fun z => absurd rfl z) (fun _ => ?_)
            exact n67 kd _
          | true =>
            have q2 := hb rfl
            rw [hkd] at q2
            exact absurd q2 (hno q0 q1)
        · refine ev_icmp_ne (tgt := 67) d_ContentType_takeParameter_60 (by decide) (fun _ => ?_) (fun z => absurd z q1)
          exact n67 kd _
      · refine ev_icmp_ne (tgt := 67) d_ContentType_takeParameter_42 (by decide) (fun _ => ?_) (fun z => absurd z q0)
        exact n67 kd _
    refine ct_of (ws' := tb_all) rfl rfl (Nat.le_of_ble_eq_true rfl) ?_
    refine ev_aload_n d_ContentType_takeParameter_0 rfl rfl ?_
    refine ev_get (fa_ContentType_9 rfl rfl) d_ContentType_takeParameter_1 hA rfl ?_
    refine ev_Vv (ci := 4) [] [] ca_ContentType_takeParameter_48 d_ContentType_takeParameter_4 rfl (hWd) rfl (Nat.le_of_ble_eq_true rfl) (w_wkinds hWd) ?_
    refine ev_iload_n d_ContentType_takeParameter_7 rfl rfl ?_
    refine ev_iconst (v := 2) d_ContentType_takeParameter_8 (by decide) ?_
    refine ev_iadd d_ContentType_takeParameter_9 ?_
    rw [show nI i + 2 = nI (i + 2) from nI_add i 2]
    refine ev_Vv (ci := 1) [.int (nI (i + 2))] [] ca_ContentType_takeParameter_54 d_ContentType_takeParameter_10 rfl ((S.1.1 _ m16).1.1) rfl (Nat.le_of_ble_eq_true rfl) (w_get hT S.1 m16 (nI (i + 2))) ?_
    generalize hkd : rg (σ 16).2.2 (nI (i + 2)) = kd
    refine ev_istore_n d_ContentType_takeParameter_13 rfl (by decide) ?_
    refine ev_iload_n d_ContentType_takeParameter_14 rfl rfl ?_
    refine ev_iconst (v := 1) d_ContentType_takeParameter_15 (by decide) ?_
    by_cases q1 : kd = 1
    · refine ev_icmp_eq (tgt := 24) d_ContentType_takeParameter_16 (by decide) (fun _ => ?_) (fun z => absurd q1 z)
      refine ev_iconst (v := 1) d_ContentType_takeParameter_24 (by decide) ?_
      refine ev_goto (tgt := 29) d_ContentType_takeParameter_25 (by decide) ?_
      exact a29 kd true (fun _ => Or.inl q1) hkd.symm
    · refine ev_icmp_eq (tgt := 24) d_ContentType_takeParameter_16 (by decide) (fun z => absurd z q1) (fun _ => ?_)
      refine ev_iload_n d_ContentType_takeParameter_19 rfl rfl ?_
      refine ev_iconst (v := 2) d_ContentType_takeParameter_20 (by decide) ?_
      by_cases q2 : kd = 2
      · refine ev_icmp_ne (tgt := 28) d_ContentType_takeParameter_21 (by decide) (fun z => absurd q2 z) (fun _ => ?_)
        refine ev_iconst (v := 1) d_ContentType_takeParameter_24 (by decide) ?_
        refine ev_goto (tgt := 29) d_ContentType_takeParameter_25 (by decide) ?_
        exact a29 kd true (fun _ => Or.inr q2) hkd.symm
      · refine ev_icmp_ne (tgt := 28) d_ContentType_takeParameter_21 (by decide) (fun _ => ?_) (fun z => absurd z q2)
        refine ev_iconst (v := 0) d_ContentType_takeParameter_28 (by decide) ?_
        exact a29 kd false (fun z => by cases z) hkd.symm
end TYP6
