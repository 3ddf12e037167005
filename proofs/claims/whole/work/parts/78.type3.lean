section TYPE3
variable {G : gl_G} {cI cZ : ClassId} {h0 : hp_T} {M : Nat}
theorem va_up_self2 {α : Type} (R : Nat → α) (k : Nat) (v : α) : va_up R k v k = v := va_up_self _ _ _
/-- what type leaves of a field with the value v -/
def tyP (cI cZ : ClassId) (h0 : hp_T) (M : Nat) (I : Nat → Int32) (R : Nat → Nat → Int32) (P : Pts) (W : Wds) : Value → hp_T → Prop := fun v h' => v = .int (bI (tyA W).isSome) ∧ ∃ I' R' ml', h' = mo_ov cI cZ h0 M I' R' ∧ pOk (tyPt P (tyA W)) ml' R' ∧ pmOk (tyQs W) I' R' ∧ I' 0 = 0 ∧ I' 37 = -1 ∧ I' 38 = -1 ∧ sm [0, 12, 18, 27, 37, 38, 39, 40, 41] I I' ∧ sm [8, 9, 10, 11, 12, 13, 14, 15, 16, 17, 19, 20, 21, 22, 23, 24, 25] R R'
theorem c_Model_type (hT : (gl_t G)[0]? = some (cI, .int)) (hZ : (gl_t G)[1]? = some (cZ, .boolean)) {I : Nat → Int32} {R : Nat → Nat → Int32} {P : Pts} {ml : Nat → Nat} {F : Flds} (hF : flds F R) (hI4 : I 4 = nI F.length) (hF40 : F.length ≤ 40) (hk : (fK F).length ≤ 1501) (hP : pOk P ml R) (f : Int32) : ct_E G m_Model_type [.ref M, .int f] (mo_ov cI cZ h0 M I R) (cr (fun v h' => (sp_isField (nI F.length) f = 0 ∧ v = .int 0 ∧ h' = mo_ov cI cZ h0 M (upd I 0 1) R) ∨ ∃ (j : Nat) (q : List Int32 × List Int32), f = nI j ∧ F[j]? = some q ∧ tyP cI cZ h0 M I R P (wcut true q.2.length q.2) v h')) := by
  refine ct_of (ws' := tb_all) rfl rfl (Nat.le_of_ble_eq_true rfl) ?_
  refine ev_aload_n d_Model_type_0 rfl rfl ?_
  refine ev_aload_n d_Model_type_1 rfl rfl ?_
  refine ev_iload_n d_Model_type_2 rfl rfl ?_
  refine mo_Vv [.int f] [.ref M] ca_Model_type_137 d_Model_type_3 rfl (Nat.le_of_ble_eq_true rfl) (c_Model_isField f) ?_
  rw [hI4]
  refine ev_if_eq (tgt := 13) d_Model_type_6 (by decide) (fun c_6 => ?_) (fun c_6 => ?_)
  · refine ev_iconst (v := 1) d_Model_type_13 (by decide) ?_
    refine mo_put (fp_Model_99 rfl rfl) d_Model_type_14 (Nat.le_of_ble_eq_true rfl) rfl rfl rfl ?_
    refine ev_aload_n d_Model_type_17 rfl rfl ?_
    refine mo_get (fa_Model_99 rfl rfl) d_Model_type_18 rfl ?_
    refine ev_if_eq (tgt := 26) d_Model_type_21 (by decide) (fun z => absurd (show (1 : Int32) = 0 from z) (by decide)) (fun _ => ?_)
    refine ev_iconst (v := 0) d_Model_type_24 (by decide) ?_
    refine ev_zret d_Model_type_25 rfl rfl ?_
    exact ⟨_, rfl, Or.inl ⟨c_6, rfl, rfl⟩⟩
  · obtain ⟨j, hj, rfl⟩ := isF_1 (by omega) c_6
    have hq : F[j]? = some F[j] := List.getElem?_eq_getElem hj
    generalize F[j] = q at hq
    have hqv : q.2.length ≤ 1501 := by
      obtain ⟨na, va, r3, r5, b1, b2, n1, n2⟩ := flds_name hF hq
      omega
    refine ev_iconst (v := 0) d_Model_type_9 (by decide) ?_
    refine ev_goto (tgt := 14) d_Model_type_10 (by decide) ?_
    refine mo_put (fp_Model_99 rfl rfl) d_Model_type_14 (Nat.le_of_ble_eq_true rfl) rfl rfl rfl ?_
    refine ev_aload_n d_Model_type_17 rfl rfl ?_
    refine mo_get (fa_Model_99 rfl rfl) d_Model_type_18 rfl ?_
    refine ev_if_eq (tgt := 26) d_Model_type_21 (by decide) (fun _ => ?_) (fun z => absurd rfl z)
    refine ev_aload_n d_Model_type_26 rfl rfl ?_
    refine ev_iload_n d_Model_type_27 rfl rfl ?_
    refine ev_iconst (v := 1) d_Model_type_28 (by decide) ?_
    refine mo_Vn [.int (nI j), .int (bI true)] [] ca_Model_type_251 d_Model_type_29 rfl (Nat.le_of_ble_eq_true rfl) (c_Model_cut hT hF hF40 hk hq true) (fun h1 z => ?_)
    obtain ⟨I1, R1, rfl, w1, w2, w3, w4⟩ := z
    obtain ⟨-, wl, wb⟩ := wcut_len true q.2.length q.2 (Nat.le_refl _)
    generalize hWe : wcut true q.2.length q.2 = W at w1 wl wb
    have hP1 : pOk P ml R1 := pOk_R hP (fun j j1 j2 => w4 j (by simp; omega))
    refine ev_aload_n d_Model_type_32 rfl rfl ?_
    refine ev_iconst (v := 5) d_Model_type_33 (by decide) ?_
    refine ev_bipush (v := 6) d_Model_type_34 (by decide) ?_
    refine ev_iconst (v := 2) d_Model_type_36 (by decide) ?_
    refine mo_Vn [.int (nI 5), .int (nI 6), .int (nI 2)] [] ca_Model_type_255 d_Model_type_37 rfl (Nat.le_of_ble_eq_true rfl) (c_Model_forget hT hP1 (f := 5) (l := 6) (a := 2) (by decide) (by decide) (by decide) (by decide +kernel)) (fun h1 z => ?_)
    obtain ⟨R2, rfl, f1, f2⟩ := z
    have hW2 : wOk W (upd (upd (upd I1 27 0) 37 (-1)) 38 (-1)) R2 := wOk_R (wOk_I w1 rfl rfl) (fun j j1 j2 => f2 j (by simp; omega))
    have eP : (fun w => if 5 ≤ w ∧ w ≤ 6 then [] else P w) = tyPt P none := by
      funext w
      unfold tyPt
      by_cases h5 : w = 5
      · subst h5; rfl
      · by_cases h6 : w = 6
        · subst h6; rfl
        · rw [if_neg h5, if_neg h6, if_neg (by omega)]
    rw [eP] at f1
    refine ev_aload_n d_Model_type_40 rfl rfl ?_
    refine ev_iconst (v := 0) d_Model_type_41 (by decide) ?_
    refine mo_put (fp_Model_347 rfl rfl) d_Model_type_42 (Nat.le_of_ble_eq_true rfl) rfl rfl rfl ?_
    refine ev_aload_n d_Model_type_45 rfl rfl ?_
    refine ev_iconst (v := (-1)) d_Model_type_46 (by decide) ?_
    refine mo_put (fp_Model_92 rfl rfl) d_Model_type_47 (Nat.le_of_ble_eq_true rfl) rfl rfl rfl ?_
    refine ev_aload_n d_Model_type_50 rfl rfl ?_
    refine ev_iconst (v := (-1)) d_Model_type_51 (by decide) ?_
    refine mo_put (fp_Model_96 rfl rfl) d_Model_type_52 (Nat.le_of_ble_eq_true rfl) rfl rfl rfl ?_
    obtain ⟨I2, hI2⟩ : ∃ I2, I2 = upd (upd (upd I1 27 0) 37 (-1)) 38 (-1) := ⟨_, rfl⟩
    rw [← hI2] at hW2 ⊢
    have z0 : I2 0 = 0 := by rw [hI2]; exact w3 0 (by decide)
    have z27 : I2 27 = nI 0 := by rw [hI2]; rfl
    have z37 : I2 37 = -1 := by rw [hI2]; rfl
    have z38 : I2 38 = -1 := by rw [hI2]; rfl
    have zI : sm [0, 12, 18, 27, 37, 38, 39, 40, 41] I I2 := fun x hx => by
      simp only [List.mem_cons, List.not_mem_nil, or_false, not_or] at hx
      rw [hI2, upd_ne hx.2.2.2.2.2.1, upd_ne hx.2.2.2.2.1, upd_ne hx.2.2.2.1, w3 x (by simp [hx]), upd_ne hx.1]
    have zR : sm [8, 9, 10, 11, 12, 13, 14, 15, 16, 17, 19, 20, 21, 22, 23, 24, 25] R R2 := sm_tr (sm_mono w4 (by decide)) (sm_mono f2 (by decide))
    have hQ0 : ∀ R', pmOk [] I2 R' := fun R' => ⟨z27, by decide, by decide, fun i q hq => by simp at hq⟩
    have h12 := hW2.1
    obtain ⟨a, ea⟩ : ∃ a, nx W 0 W.length = a := ⟨_, rfl⟩
    obtain ⟨s, es⟩ : ∃ s, nx W (a + 1) W.length = s := ⟨_, rfl⟩
    obtain ⟨b, eb⟩ : ∃ b, nx W (s + 1) W.length = b := ⟨_, rfl⟩
    have hkey : tyA W = (match W[a]?, W[s]?, W[b]? with
      | some wa, some ws, some wb => if wa.1 = 4 ∧ wIs ws 47 = true ∧ wb.1 = 4 then some (wa.2.2, wb.2.2, b) else none
      | _, _, _ => none) := by
      subst ea; subst es; subst eb; rfl
    have nxb : ∀ a, a ≤ 4600 → nx W a W.length ≤ a + 1501 := fun a ha => by
      rcases Nat.lt_or_ge a W.length with q | q
      · have := nx_le W (a := a) (b := W.length) (by omega) (Nat.le_refl _); omega
      · rw [nx_out W q]; omega
    have ha1 : a ≤ 1501 := by have := nxb 0 (by omega); omega
    have hs1 : s ≤ 3003 := by have := nxb (a + 1) (by omega); omega
    have hb1 : b ≤ 4505 := by have := nxb (s + 1) (by omega); omega
    have gs : a + 1 ≤ s := by rw [← es]; exact nx_ge W _ _
    have gb : s + 1 ≤ b := by rw [← eb]; exact nx_ge W _ _
    have back : tyA W = none → ev_E G m_Model_type 130 [(0, .ref M), (1, .int (nI j)), (2, .int (nI a)), (3, .int (nI s)), (4, .int (nI b))] [] (mo_ov cI cZ h0 M I2 R2) (cr (fun v h' => (sp_isField (nI F.length) (nI j) = 0 ∧ v = .int 0 ∧ h' = mo_ov cI cZ h0 M (upd I 0 1) R) ∨ ∃ (j' : Nat) (q : List Int32 × List Int32), nI j = nI j' ∧ F[j']? = some q ∧ tyP cI cZ h0 M I R P (wcut true q.2.length q.2) v h')) := by
      intro z
      refine ev_iconst (v := 0) d_Model_type_130 (by decide) ?_
      refine ev_zret d_Model_type_131 rfl rfl ?_
      refine ⟨_, rfl, Or.inr ⟨j, q, rfl, hq, ?_⟩⟩
      rw [hWe]
      refine ⟨by rw [z]; rfl, I2, R2, _, rfl, by rw [z]; exact f1, ?_, z0, z37, z38, zI, zR⟩
      rw [show tyQs W = [] by unfold tyQs; rw [z]]
      exact hQ0 _
    refine ev_aload_n d_Model_type_55 rfl rfl ?_
    refine ev_iconst (v := 0) d_Model_type_56 (by decide) ?_
    refine ev_aload_n d_Model_type_57 rfl rfl ?_
    refine mo_get (fa_Model_149 rfl rfl) d_Model_type_58 rfl ?_
    rw [h12]
    refine mo_Vv [.int (nI 0), .int (nI W.length)] [] ca_Model_type_197 d_Model_type_61 rfl (Nat.le_of_ble_eq_true rfl) (c_Model_next hT hW2 (by omega) (Nat.le_refl _) (by omega)) ?_
    rw [ea]
    refine ev_istore_n d_Model_type_64 rfl (by decide) ?_
    refine ev_aload_n d_Model_type_65 rfl rfl ?_
    refine ev_iload_n d_Model_type_66 rfl rfl ?_
    refine ev_iconst (v := 1) d_Model_type_67 (by decide) ?_
    refine ev_iadd d_Model_type_68 ?_
    rw [nI_1]
    refine ev_aload_n d_Model_type_69 rfl rfl ?_
    refine mo_get (fa_Model_149 rfl rfl) d_Model_type_70 rfl ?_
    rw [h12]
    refine mo_Vv [.int (nI (a + 1)), .int (nI W.length)] [] ca_Model_type_197 d_Model_type_73 rfl (Nat.le_of_ble_eq_true rfl) (c_Model_next hT hW2 (by omega) (Nat.le_refl _) (by omega)) ?_
    rw [es]
    refine ev_istore_n d_Model_type_76 rfl (by decide) ?_
    refine ev_aload_n d_Model_type_77 rfl rfl ?_
    refine ev_iload_n d_Model_type_78 rfl rfl ?_
    refine ev_iconst (v := 1) d_Model_type_79 (by decide) ?_
    refine ev_iadd d_Model_type_80 ?_
    rw [nI_1]
    refine ev_aload_n d_Model_type_81 rfl rfl ?_
    refine mo_get (fa_Model_149 rfl rfl) d_Model_type_82 rfl ?_
    rw [h12]
    refine mo_Vv [.int (nI (s + 1)), .int (nI W.length)] [] ca_Model_type_197 d_Model_type_85 rfl (Nat.le_of_ble_eq_true rfl) (c_Model_next hT hW2 (by omega) (Nat.le_refl _) (by omega)) ?_
    rw [eb]
    refine ev_istore d_Model_type_88 (by decide) ?_
    refine ev_iload d_Model_type_90 rfl ?_
    refine ev_aload_n d_Model_type_92 rfl rfl ?_
    refine mo_get (fa_Model_149 rfl rfl) d_Model_type_93 rfl ?_
    rw [h12]
    refine ev_as [(0, .ref M), (1, .int (nI j)), (2, .int (nI a)), (3, .int (nI s)), (4, .int (nI b))] ⟨rfl, rfl, rfl, rfl, rfl, trivial⟩ ?_
    refine ev_icmp_ge (tgt := 130) d_Model_type_96 (by decide) (fun c_96 => ?_) (fun c_96 => ?_)
    · have hle := (nI_leI (by omega) (by omega)).mp c_96
      refine back ?_
      rw [hkey, List.getElem?_eq_none (l := W) (i := b) hle]
      cases W[a]? <;> cases W[s]? <;> rfl
    · have hbW : b < W.length := by
        rcases Nat.lt_or_ge b W.length with q | q
        · exact q
        · exact absurd (nI_le q (by omega)) c_96
      have qa : W[a]? = some W[a] := List.getElem?_eq_getElem (by omega)
      have qs : W[s]? = some W[s] := List.getElem?_eq_getElem (by omega)
      have qb : W[b]? = some W[b] := List.getElem?_eq_getElem (by omega)
      generalize W[a] = wa at qa
      generalize W[s] = wsn at qs
      generalize W[b] = wbb at qb
      rw [qa, qs, qb] at hkey
      have hkey2 : tyA W = if wa.1 = 4 ∧ wIs wsn 47 = true ∧ wbb.1 = 4 then some (wa.2.2, wbb.2.2, b) else none := hkey
      have ia : vp_in (nI a) (mo_len 8) := vp_in_nI (show a < 1501 by omega) (by decide)
      have ib : vp_in (nI b) (mo_len 8) := vp_in_nI (show b < 1501 by omega) (by decide)
      have r8a := (hW2.2.2.2 a wa qa).1
      have r8b := (hW2.2.2.2 b wbb qb).1
      refine ev_aload_n d_Model_type_99 rfl rfl ?_
      refine mo_get (fa_Model_31 rfl rfl) d_Model_type_100 rfl ?_
      refine ev_iload_n d_Model_type_103 rfl rfl ?_
      refine mo_ald hT d_Model_type_104 (by decide) ia ?_
      rw [nI_clamp (by omega), r8a]
      refine ev_iconst (v := 4) d_Model_type_105 (by decide) ?_
      refine ev_icmp_ne (tgt := 130) d_Model_type_106 (by decide) (fun c_106 => ?_) (fun c_106 => ?_)
      · refine back ?_
        rw [hkey2]
        exact if_neg fun z => c_106 z.1
      · have w4a : wa.1 = 4 := by
          by_cases q : wa.1 = 4
          · exact q
          · first | exact absurd q c_106 | exact c_106
        refine ev_aload_n d_Model_type_109 rfl rfl ?_
        refine ev_iload_n d_Model_type_110 rfl rfl ?_
        refine ev_bipush (v := 47) d_Model_type_111 (by decide) ?_
        refine mo_Vv [.int (nI s), .int 47] [] ca_Model_type_200 d_Model_type_113 rfl (Nat.le_of_ble_eq_true rfl) (c_Model_is hT hW2 (by omega) qs 47) ?_
        refine ev_if_eq (tgt := 130) d_Model_type_116 (by decide) (fun c_116 => ?_) (fun c_116 => ?_)
        · refine back ?_
          rw [hkey2]
          refine if_neg fun z => ?_
          rw [z.2.1] at c_116
          exact absurd c_116 (by decide)
        · have w47 : wIs wsn 47 = true := by
            cases hw : wIs wsn 47 with
            | true => rfl
            | false => rw [hw] at c_116; exact absurd rfl c_116
          refine ev_aload_n d_Model_type_119 rfl rfl ?_
          refine mo_get (fa_Model_31 rfl rfl) d_Model_type_120 rfl ?_
          refine ev_iload d_Model_type_123 rfl ?_
          refine mo_ald hT d_Model_type_125 (by decide) ib ?_
          rw [nI_clamp (by omega), r8b]
          refine ev_iconst (v := 4) d_Model_type_126 (by decide) ?_
          refine ev_icmp_eq (tgt := 132) d_Model_type_127 (by decide) (fun c_127 => ?_) (fun c_127 => ?_)
          · have hA : tyA W = some (wa.2.2, wbb.2.2, b) := by rw [hkey2]; exact if_pos ⟨w4a, w47, c_127⟩
            obtain ⟨-, -, la, -⟩ := wds_o hW2 qa
            obtain ⟨-, -, lb, -⟩ := wds_o hW2 qb
            refine ev_iconst (v := 0) d_Model_type_132 (by decide) ?_
            refine ev_istore d_Model_type_133 (by decide) ?_
            refine ev_as [(0, .ref M), (1, .int (nI j)), (2, .int (nI a)), (3, .int (nI s)), (4, .int (nI b)), (5, .int (nI 0))] ⟨rfl, rfl, rfl, rfl, rfl, rfl, trivial⟩ ?_
            have C := fun K => l_Model_tyC (G := G) (cI := cI) (cZ := cZ) (h0 := h0) (M := M) (f := nI j) (a := nI a) (s := nI s) (b := nI b) (R := R2) (n := (wB W).length) (Z := (cr (fun v h' => (sp_isField (nI F.length) (nI j) = 0 ∧ v = .int 0 ∧ h' = mo_ov cI cZ h0 M (upd I 0 1) R) ∨ ∃ (j' : Nat) (q : List Int32 × List Int32), nI j = nI j' ∧ F[j']? = some q ∧ tyP cI cZ h0 M I R P (wcut true q.2.length q.2) v h'))) hT hW2.2.1 (by omega) K (wB W).length 0 (Nat.zero_add _)
            rw [cpr_0, up_same] at C
            refine C ?_
            obtain ⟨R3, hR3⟩ : ∃ R3, R3 = va_up R2 25 (cpr (R2 25) (R2 12) 0 (wB W).length) := ⟨_, rfl⟩
            have s3 : sm [25] R2 R3 := by rw [hR3]; exact sm_up (by decide)
            have h25 : hol (R3 25) 0 (wB W) := by
              rw [hR3, va_up_self]
              intro i x hx
              have hi := (List.getElem?_eq_some_iff.mp hx).1
              have := hW2.2.2.1 i x hx
              rw [Nat.zero_add] at this ⊢
              show (if 0 ≤ i ∧ i < 0 + (wB W).length then R2 12 (i - 0) else _) = _
              rw [if_pos (by omega), Nat.sub_zero]
              exact this
            rw [← hR3]
            have hW3 : wOk W I2 R3 := wOk_R hW2 (fun j j1 j2 => s3 j (by simp; omega))
            have f3 : pOk (tyPt P none) (upN ml 2 0) R3 := pOk_R f1 (fun j j1 j2 => s3 j (by simp; omega))
            refine ev_aload_n d_Model_type_164 rfl rfl ?_
            refine ev_iconst (v := 5) d_Model_type_165 (by decide) ?_
            refine ev_iload_n d_Model_type_166 rfl rfl ?_
            refine mo_Vn [.int (nI 5), .int (nI a)] [] ca_Model_type_350 d_Model_type_167 rfl (Nat.le_of_ble_eq_true rfl) (c_Model_makeSmall (v := 5) hT (by decide) hW3 (by omega) (by omega) qa f3 (show (0 : Nat) < 1000 by decide) (by show 0 + _ ≤ _; omega)) (fun h1 z => ?_)
            obtain ⟨R4, rfl, g1, g2⟩ := z
            have hW4 : wOk W I2 R4 := wOk_R hW3 (fun j j1 j2 => g2 j (by simp; omega))
            refine ev_aload_n d_Model_type_170 rfl rfl ?_
            refine ev_bipush (v := 6) d_Model_type_171 (by decide) ?_
            refine ev_iload d_Model_type_173 rfl ?_
            refine mo_Vn [.int (nI 6), .int (nI b)] [] ca_Model_type_350 d_Model_type_175 rfl (Nat.le_of_ble_eq_true rfl) (c_Model_makeSmall (v := 6) hT (by decide) hW4 (by omega) (by omega) qb g1 (by rw [up_ne (by decide)]; exact (show (0 : Nat) < 1000 by decide)) (by show 0 + _ + _ ≤ _; omega)) (fun h1 z => ?_)
            obtain ⟨R5, rfl, g3, g4⟩ := z
            have hW5 : wOk W I2 R5 := wOk_R hW4 (fun j j1 j2 => g4 j (by simp; omega))
            have h255 : hol (R5 25) 0 (wB W) := by rw [g4 25 (by decide), g2 25 (by decide)]; exact h25
            refine ev_iload d_Model_type_178 rfl ?_
            refine ev_iconst (v := 1) d_Model_type_180 (by decide) ?_
            refine ev_iadd d_Model_type_181 ?_
            rw [nI_1]
            refine ev_istore d_Model_type_182 (by decide) ?_
            refine ev_as [(0, .ref M), (1, .int (nI j)), (2, .int (nI a)), (3, .int (nI s)), (4, .int (nI b)), (5, .int (nI (b + 1)))] ⟨rfl, rfl, rfl, rfl, rfl, rfl, trivial⟩ ?_
            have K := l_Model_tyQ (G := G) (cI := cI) (cZ := cZ) (h0 := h0) (M := M) (W := W) (f := nI j) (a := nI a) (s := nI s) (b := nI b) hT hZ (by omega) (by omega) (W.length + 1) (b + 1) [] I2 R5 (by omega) (by omega) hW5 h255 (hQ0 _) ⟨0, Nat.zero_le _, Nat.zero_le _, Nat.zero_le _, fun j w j1 j2 => absurd j2 (Nat.not_lt_zero _)⟩
            refine ev_to K ?_
            rintro o h' ⟨v, rfl, rfl, R6, rfl, k1, k2⟩
            refine ⟨_, rfl, Or.inr ⟨j, q, rfl, hq, ?_⟩⟩
            rw [hWe]
            have eQ : tyQs W = tyQ W (W.length + 1) (b + 1) [] := by unfold tyQs; rw [hA]
            have eP2 : va_up (va_up (tyPt P none) 5 (tyPt P none 5 ++ [wa.2.2.map sp_small])) 6 (va_up (tyPt P none) 5 (tyPt P none 5 ++ [wa.2.2.map sp_small]) 6 ++ [wbb.2.2.map sp_small]) = tyPt P (tyA W) := by
              rw [hA]
              funext w
              by_cases h6 : w = 6
              · subst h6; rw [va_up_self, up_ne (by decide)]; rfl
              · rw [up_ne h6]
                by_cases h5 : w = 5
                · subst h5; rw [va_up_self]; rfl
                · rw [up_ne h5]
                  unfold tyPt
                  rw [if_neg h5, if_neg h6, if_neg h5, if_neg h6]
            rw [eP2] at g3
            refine ⟨by rw [hA]; rfl, upd I2 27 (nI (tyQ W (W.length + 1) (b + 1) []).length), R6, _, rfl, pOk_R g3 (fun j j1 j2 => k2 j (by simp; omega)), by rw [eQ]; exact k1, z0, z37, z38, fun x hx => ?_, ?_⟩
            · rw [← zI x hx]
              exact upd_ne (fun e => hx (by rw [e]; decide))
            · exact sm_tr zR (sm_tr (sm_mono s3 (by decide)) (sm_tr (sm_mono g2 (by decide)) (sm_tr (sm_mono g4 (by decide)) (sm_mono k2 (by decide)))))
          · refine back ?_
            rw [hkey2]
            exact if_neg fun z => c_127 z.2.2
end TYPE3
