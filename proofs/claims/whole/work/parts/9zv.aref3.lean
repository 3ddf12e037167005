section ADS3
variable {G : gl_G} {cI cZ : ClassId} {h0 : hp_T} {M : Nat} {W : Wds} {P : Pts} {ml : Nat → Nat} {gs : List Int32}
/-- what takeMailbox leaves of the words N with the comment cm -/
def tmQ (cI cZ : ClassId) (h0 : hp_T) (M : Nat) (I : Nat → Int32) (R : Nat → Nat → Int32) (P : Pts) (ml : Nat → Nat) (gs : List Int32) (g : Int32) (a b c : Nat) (N : Wds) (cm : List Int32) : hp_T → Prop := fun h' => ∃ I' R', h' = mo_ov cI cZ h0 M I' R' ∧ sm [25, 42, 43] I I' ∧ sm [13, 14, 15, 16, 17, 18] R R' ∧ ((N = [] ∧ R' = R ∧ I' 25 = I 25) ∨ (¬ N = [] ∧ ad_mb N cm = none ∧ R' = R ∧ I' 25 = I 25 + 1) ∨ (¬ N = [] ∧ a < b ∧ ∃ (l0 l1 l2 : List Int32) (m : Nat), ad_mb N cm = some (l0, l1, l2) ∧ I' 25 = I 25 ∧ pOk (va_up (va_up (va_up P 0 (P 0 ++ [l0])) 1 (P 1 ++ [l1])) 2 (P 2 ++ [l2])) (upN ml 0 m) R' ∧ m ≤ ml 0 + c ∧ hol (R' 18) 0 (gs ++ [g])))
/-- from 220 on: the name is made -/
theorem k_tm220 (hT : (gl_t G)[0]? = some (cI, .int)) {I I0 : Nat → Int32} {R R0 : Nat → Nat → Int32} (hW : wOk W I R) (hl : W.length ≤ 1501) (hb : (wB W).length ≤ 1600) {l0 : List Int32} {m1 : Nat} (hP : pOk (va_up P 0 (P 0 ++ [l0])) (upN ml 0 m1) R) (hg : hol (R 18) 0 gs) (hgl : gs.length = (P 1).length) (h2l : (P 2).length = (P 1).length) (hn : (P 1).length < 1000) {g x1 x3 x5 x8 : Int32} {a b c sf st e d : Nat} (hab : a < b) (hbW : b ≤ 1501) (q1 : sf ≤ e) (q2 : e ≤ d) (q3 : d ≤ st) (q4 : st ≤ W.length) (hc1 : m1 + iv (gN W) sf st ≤ 5890) (hc2 : m1 + iv (gN W) sf st ≤ ml 0 + c) (sI : sm [25, 42, 43] I0 I) (s25 : I 25 = I0 25) (sR : sm [13, 14, 15, 16, 17, 18] R0 R) {N : Wds} {cm : List Int32} (hN : ¬ N = []) (hmb : ad_mb N cm = some (l0, ad_wT (nc (ad_sl W sf e)), ad_wT (nc (ad_sl W d st)))) :
    ev_E G m_Model_takeMailbox 220 [(0, .ref M), (1, .int x1), (2, .int (nI b)), (3, .int x3), (4, .int g), (5, .int x5), (6, .int (nI sf)), (7, .int (nI st)), (8, .int x8), (9, .int (nI e)), (10, .int (nI d))] [] (mo_ov cI cZ h0 M I R) (cn (tmQ cI cZ h0 M I0 R0 P ml gs g a b c N cm)) := by
  have hcut := iv_cut (gN W) (x := sf) (m := e) (y := st) q1 (by omega)
  have hcut2 := iv_mono (gN W) (x := e) (x' := d) (y := st) q2
  have i15 : vp_in (1 : Int32) (mo_len 15) := pk_in 1 7 (by decide)
  have i18 : vp_in (nI (P 1).length) (mo_len 18) := vp_in_nI (show (P 1).length < 1000 by omega) (by decide)
  have r15 : R 15 1 = nI (P 1).length := by
    have := (hP.2 1 (by decide)).1
    rw [up_ne (by decide)] at this
    exact this
  refine ev_aload_n d_Model_takeMailbox_220 rfl rfl ?_
  refine mo_get (fa_Model_61 rfl rfl) d_Model_takeMailbox_221 rfl ?_
  refine ev_aload_n d_Model_takeMailbox_224 rfl rfl ?_
  refine mo_get (fa_Model_52 rfl rfl) d_Model_takeMailbox_225 rfl ?_
  refine ev_iconst (v := 1) d_Model_takeMailbox_228 (by decide) ?_
  refine mo_ald hT d_Model_takeMailbox_229 (by decide) i15 ?_
  rw [show (1 : Int32).toNatClampNeg = 1 from rfl, r15]
  refine ev_iload d_Model_takeMailbox_230 rfl ?_
  refine mo_ast hT d_Model_takeMailbox_232 (by decide) i18 ?_
  rw [nI_clamp (by omega)]
  have s18 : sm [18] R (va_up R 18 (upd (R 18) (P 1).length g)) := sm_up (by decide)
  have hg2 : hol (va_up R 18 (upd (R 18) (P 1).length g) 18) 0 (gs ++ [g]) := by
    rw [va_up_self, ← hgl]
    have := hol_snoc hg g
    rw [Nat.zero_add] at this
    exact this
  generalize va_up R 18 (upd (R 18) (P 1).length g) = R1 at s18 hg2 ⊢
  have hW1 : wOk W I R1 := wOk_R hW (fun j j1 j2 => s18 j (by simp; omega))
  have hP1 : pOk (va_up P 0 (P 0 ++ [l0])) (upN ml 0 m1) R1 := pOk_R hP (fun j j1 j2 => s18 j (by simp; omega))
  refine ev_aload_n d_Model_takeMailbox_233 rfl rfl ?_
  refine ev_iconst (v := 1) d_Model_takeMailbox_234 (by decide) ?_
  refine ev_iload d_Model_takeMailbox_235 rfl ?_
  refine ev_iload d_Model_takeMailbox_237 rfl ?_
  refine mo_Vn [.int (nI 1), .int (nI sf), .int (nI e)] [] ca_Model_takeMailbox_245 d_Model_takeMailbox_239 rfl (Nat.le_of_ble_eq_true rfl) (s_Model_makeWords (v := 1) hT (by decide) hW1 hl hb q1 (by omega) hP1 (by rw [up_ne (by decide)]; exact hn) (by rw [upN_at]; omega)) (fun h1 z => ?_)
  obtain ⟨R2, m2, rfl, p1, p2, p3⟩ := z
  rw [upN_at] at p2
  rw [upN_same, up_ne (by decide)] at p1
  have hW2 : wOk W I R2 := wOk_R hW1 (fun j j1 j2 => p3 j (by simp; omega))
  refine ev_aload_n d_Model_takeMailbox_242 rfl rfl ?_
  refine ev_iconst (v := 2) d_Model_takeMailbox_243 (by decide) ?_
  refine ev_iload d_Model_takeMailbox_244 rfl ?_
  refine ev_iload d_Model_takeMailbox_246 rfl ?_
  refine mo_Vn [.int (nI 2), .int (nI d), .int (nI st)] [] ca_Model_takeMailbox_245 d_Model_takeMailbox_248 rfl (Nat.le_of_ble_eq_true rfl) (s_Model_makeWords (v := 2) hT (by decide) hW2 hl hb q3 q4 p1 (by rw [up_ne (by decide), up_ne (by decide), h2l]; exact hn) (by rw [upN_at]; omega)) (fun h1 z => ?_)
  obtain ⟨R3, m3, rfl, p4, p5, p6⟩ := z
  rw [upN_at] at p5
  rw [upN_same, up_ne (show 2 ≠ 1 by decide), up_ne (show 2 ≠ 0 by decide)] at p4
  refine ev_vret d_Model_takeMailbox_251 rfl ?_
  refine ⟨rfl, I, R3, rfl, sI, sm_tr sR (sm_tr (sm_mono s18 (by decide)) (sm_tr (sm_mono p3 (by decide)) (sm_mono p6 (by decide)))), Or.inr (Or.inr ⟨hN, hab, _, _, _, m3, hmb, s25, p4, by omega, ?_⟩)⟩
  rw [p6 18 (by decide), p3 18 (by decide)]
  exact hg2
theorem s_Model_takeMailbox (hT : (gl_t G)[0]? = some (cI, .int)) {I : Nat → Int32} {R : Nat → Nat → Int32} (hW : wOk W I R) (hl : W.length ≤ 1501) (hb : (wB W).length ≤ 1600) {a b : Nat} (hab : a ≤ b) (hbW : b ≤ W.length) (hP : pOk P ml R) (hg : hol (R 18) 0 gs) (hgl : gs.length = (P 1).length) (h0l : (P 0).length = (P 1).length) (h2l : (P 2).length = (P 1).length) (hn : (P 1).length < 1000) (hm : ml 0 + iv (gA W) a b ≤ 5890) (g : Int32) :
    ct_E G m_Model_takeMailbox [.ref M, .int (nI a), .int (nI b), .int (bI (ad_an (ad_sl W a b))), .int g] (mo_ov cI cZ h0 M I R) (cn (tmQ cI cZ h0 M I R P ml gs g a b (iv (gA W) a b) (nc (ad_sl W a b)) (ad_cm (ad_sl W a b)))) := by
  have hNC := iv_add (gNC W) a b
  have hnx := nx_le W hab hbW
  have hng := nx_ge W a b
  generalize hcm : ad_cm (ad_sl W a b) = cm
  refine ct_of (ws' := tb_all) rfl rfl (Nat.le_of_ble_eq_true rfl) ?_
  refine ev_aload_n d_Model_takeMailbox_0 rfl rfl ?_
  refine ev_iload_n d_Model_takeMailbox_1 rfl rfl ?_
  refine ev_iload_n d_Model_takeMailbox_2 rfl rfl ?_
  refine mo_Vv [.int (nI a), .int (nI b)] [] ca_Model_takeMailbox_197 d_Model_takeMailbox_3 rfl (Nat.le_of_ble_eq_true rfl) (c_Model_next hT hW hl hbW (by omega)) ?_
  refine ev_iload_n d_Model_takeMailbox_6 rfl rfl ?_
  by_cases hnb : nx W a b = b
  · refine ev_icmp_ne (tgt := 11) d_Model_takeMailbox_7 (by decide) (fun z => absurd (by rw [hnb]) z) (fun _ => ?_)
    refine ev_vret d_Model_takeMailbox_10 rfl ?_
    exact ⟨rfl, I, R, rfl, sm_rf _ _, sm_rf _ _, Or.inl ⟨(nx_iff hab hbW).mp hnb, rfl, rfl⟩⟩
  · have hN : ¬ nc (ad_sl W a b) = [] := fun z => hnb ((nx_iff hab hbW).mpr z)
    have hlt : a < b := by omega
    refine ev_icmp_ne (tgt := 11) d_Model_takeMailbox_7 (by decide) (fun _ => ?_) (fun z => absurd ((nI_eq (by omega) (by omega)).mp z) hnb)
    generalize hun : ad_an (ad_sl W a b) = un
    -- no mailbox: one more is bad
    have tbad : ∀ I2 : Nat → Int32, sm [42, 43] I I2 → ad_mb (nc (ad_sl W a b)) cm = none → cn (tmQ cI cZ h0 M I R P ml gs g a b (iv (gA W) a b) (nc (ad_sl W a b)) cm) none (mo_ov cI cZ h0 M (upd I2 25 (I2 25 + 1)) R) := by
      intro I2 hs hno
      refine ⟨rfl, _, R, rfl, sm_tr (sm_mono hs (by decide)) (sm_upd (by decide)), sm_rf _ _, Or.inr (Or.inl ⟨hN, hno, rfl, ?_⟩)⟩
      rw [upd_at, hs 25 (by decide)]
    -- from 146 on
    have a146 : ∀ (op sf st : Nat) (gd : Int32) (tt : List Int32), a ≤ op → op ≤ b → a ≤ sf → sf ≤ st → st ≤ b → (op < b → op ≤ sf) → (b ≤ op ∨ nc (ad_sl W a op) = [] → tt = cm) → (op < b → ¬ nc (ad_sl W a op) = [] → tt = ad_nT false (nc (ad_sl W a op))) → (gd = 0 ∧ ad_mb (nc (ad_sl W a b)) cm = none ∨ gd = 1 ∧ ad_mb (nc (ad_sl W a b)) cm = ad_fin tt (nc (ad_sl W sf st))) → ev_E G m_Model_takeMailbox 146 [(0, .ref M), (1, .int (nI a)), (2, .int (nI b)), (3, .int (bI un)), (4, .int g), (5, .int (nI op)), (6, .int (nI sf)), (7, .int (nI st)), (8, .int gd)] [] (mo_ov cI cZ h0 M I R) (cn (tmQ cI cZ h0 M I R P ml gs g a b (iv (gA W) a b) (nc (ad_sl W a b)) cm)) := by
      intro op sf st gd tt o1 o2 s1 s2 s3 s4 t1 t2 hgd
      have bad : ∀ (gd : Int32) (I2 : Nat → Int32), sm [42, 43] I I2 → ad_mb (nc (ad_sl W a b)) cm = none → ev_E G m_Model_takeMailbox 162 [(0, .ref M), (1, .int (nI a)), (2, .int (nI b)), (3, .int (bI un)), (4, .int g), (5, .int (nI op)), (6, .int (nI sf)), (7, .int (nI st)), (8, .int gd)] [] (mo_ov cI cZ h0 M I2 R) (cn (tmQ cI cZ h0 M I R P ml gs g a b (iv (gA W) a b) (nc (ad_sl W a b)) cm)) := by
        intro gd I2 hs hno
        refine ev_aload_n d_Model_takeMailbox_162 rfl rfl ?_
        refine ev_dup d_Model_takeMailbox_163 rfl ?_
        refine mo_get (fa_Model_227 rfl rfl) d_Model_takeMailbox_164 rfl ?_
        refine ev_iconst (v := 1) d_Model_takeMailbox_167 (by decide) ?_
        refine ev_iadd d_Model_takeMailbox_168 ?_
        refine mo_put (fp_Model_227 rfl rfl) d_Model_takeMailbox_169 (Nat.le_of_ble_eq_true rfl) rfl rfl rfl ?_
        refine ev_vret d_Model_takeMailbox_172 rfl ?_
        exact tbad I2 hs hno
      refine ev_iload d_Model_takeMailbox_146 rfl ?_
      rcases hgd with ⟨rfl, hno⟩ | ⟨rfl, hmb⟩
      · refine ev_if_eq (tgt := 162) d_Model_takeMailbox_148 (by decide) (fun _ => ?_) (fun z => absurd rfl z)
        exact bad 0 I (sm_rf _ _) hno
      · refine ev_if_eq (tgt := 162) d_Model_takeMailbox_148 (by decide) (fun z => absurd z (by decide)) (fun _ => ?_)
        refine ev_aload_n d_Model_takeMailbox_151 rfl rfl ?_
        refine ev_iload d_Model_takeMailbox_152 rfl ?_
        refine ev_iload d_Model_takeMailbox_154 rfl ?_
        refine mo_Vr [.int (nI sf), .int (nI st)] [] ca_Model_takeMailbox_236 d_Model_takeMailbox_156 rfl (Nat.le_of_ble_eq_true rfl) (s_Model_isSpec hT hW hl s2 (by omega)) (fun v h1 z => ?_)
        obtain ⟨e, d, rfl, rfl, hsp⟩ := z
        have hs2 : sm [42, 43] I (upd (upd I 42 (nI e)) 43 (nI d)) := sm_tr (sm_upd (by decide)) (sm_upd (by decide))
        have hsI : sm [25, 42, 43] I (upd (upd I 42 (nI e)) 43 (nI d)) := sm_mono hs2 (by decide)
        have h25 : (upd (upd I 42 (nI e)) 43 (nI d)) 25 = I 25 := hs2 25 (by decide)
        have hW2 : wOk W (upd (upd I 42 (nI e)) 43 (nI d)) R := wOk_I hW rfl rfl
        cases hsx : ad_spc (nc (ad_sl W sf st)) with
        | none =>
          refine ev_if_ne (tgt := 173) d_Model_takeMailbox_159 (by decide) (fun z => absurd rfl z) (fun _ => ?_)
          exact bad 1 _ hs2 (by rw [hmb]; unfold ad_fin; rw [hsx]; rfl)
        | some n =>
          refine ev_if_ne (tgt := 173) d_Model_takeMailbox_159 (by decide) (fun _ => ?_) (fun z => absurd (show (1 : Int32) = 0 from z) (by decide))
          obtain ⟨e1, e2, e3, e4, e5⟩ := hsp n hsx
          have hmb2 : ad_mb (nc (ad_sl W a b)) cm = some (tt, ad_wT (nc (ad_sl W sf e)), ad_wT (nc (ad_sl W d st))) := by
            rw [hmb]
            unfold ad_fin
            rw [hsx, e4, e5]
            rfl
          have h42 : (upd (upd I 42 (nI e)) 43 (nI d)) 42 = nI e := rfl
          have h43 : (upd (upd I 42 (nI e)) 43 (nI d)) 43 = nI d := by simp [upd]
          refine ev_aload_n d_Model_takeMailbox_173 rfl rfl ?_
          refine mo_get (fa_Model_221 rfl rfl) d_Model_takeMailbox_174 rfl ?_
          rw [h42]
          refine ev_istore d_Model_takeMailbox_177 (by decide) ?_
          refine ev_aload_n d_Model_takeMailbox_179 rfl rfl ?_
          refine mo_get (fa_Model_224 rfl rfl) d_Model_takeMailbox_180 rfl ?_
          rw [h43]
          refine ev_istore d_Model_takeMailbox_183 (by decide) ?_
          refine ev_iload d_Model_takeMailbox_185 rfl ?_
          refine ev_iload_n d_Model_takeMailbox_187 rfl rfl ?_
          generalize upd (upd I 42 (nI e)) 43 (nI d) = I2 at hsI h25 hW2 ⊢
          have hmN := iv_mono (gN W) (x := a) (x' := sf) (y := b) s1
          have hmN2 := iv_monoR (gN W) (x := sf) (y := st) (y' := b) s3
          have cmt : tt = cm → ev_E G m_Model_takeMailbox 214 [(0, .ref M), (1, .int (nI a)), (2, .int (nI b)), (3, .int (bI un)), (4, .int g), (5, .int (nI op)), (6, .int (nI sf)), (7, .int (nI st)), (8, .int 1), (9, .int (nI e)), (10, .int (nI d))] [] (mo_ov cI cZ h0 M I2 R) (cn (tmQ cI cZ h0 M I R P ml gs g a b (iv (gA W) a b) (nc (ad_sl W a b)) cm)) := by
            intro ett
            rw [ett] at hmb2
            refine ev_aload_n d_Model_takeMailbox_214 rfl rfl ?_
            refine ev_iload_n d_Model_takeMailbox_215 rfl rfl ?_
            refine ev_iload_n d_Model_takeMailbox_216 rfl rfl ?_
            refine mo_Vn [.int (nI a), .int (nI b)] [] ca_Model_takeMailbox_242 d_Model_takeMailbox_217 rfl (Nat.le_of_ble_eq_true rfl) (s_Model_makeComment hT hW2 hl hb hab hbW hP (by omega) (by omega)) (fun h1 z => ?_)
            obtain ⟨R1, m1, rfl, p1, p2, p3⟩ := z
            rw [hcm] at p1
            exact k_tm220 hT (wOk_R hW2 (fun j j1 j2 => p3 j (by simp; omega))) hl hb p1 (by rw [p3 18 (by decide)]; exact hg) hgl h2l hn hlt (by omega) e1 e2 e3 (by omega) (by omega) (by omega) hsI h25 (sm_mono p3 (by decide)) hN hmb2
          by_cases hob : op < b
          · refine ev_icmp_ge (tgt := 214) d_Model_takeMailbox_188 (by decide) (fun z => absurd z (nI_ge hob (by omega))) (fun _ => ?_)
            have hn5 := nx_le W (a := a) (b := op) o1 (by omega)
            refine ev_aload_n d_Model_takeMailbox_191 rfl rfl ?_
            refine ev_iload_n d_Model_takeMailbox_192 rfl rfl ?_
            refine ev_iload d_Model_takeMailbox_193 rfl ?_
            refine mo_Vv [.int (nI a), .int (nI op)] [] ca_Model_takeMailbox_197 d_Model_takeMailbox_195 rfl (Nat.le_of_ble_eq_true rfl) (c_Model_next hT hW2 hl (by omega) (by omega)) ?_
            refine ev_iload d_Model_takeMailbox_198 rfl ?_
            by_cases hq : nx W a op = op
            · refine ev_icmp_ge (tgt := 214) d_Model_takeMailbox_200 (by decide) (fun _ => ?_) (fun z => absurd (nI_le (by omega) (by omega)) z)
              exact cmt (t1 (Or.inr ((nx_iff o1 (by omega)).mp hq)))
            · refine ev_icmp_ge (tgt := 214) d_Model_takeMailbox_200 (by decide) (fun z => absurd z (nI_ge (by omega) (by omega))) (fun _ => ?_)
              have ett := t2 hob (fun z => hq ((nx_iff o1 (by omega)).mpr z))
              rw [ett] at hmb2
              have hcut := iv_cut (gN W) (x := a) (m := op) (y := b) o1 o2
              have hmN3 := iv_mono (gN W) (x := op) (x' := sf) (y := b) (s4 hob)
              refine ev_aload_n d_Model_takeMailbox_203 rfl rfl ?_
              refine ev_iconst (v := 0) d_Model_takeMailbox_204 (by decide) ?_
              refine ev_iload_n d_Model_takeMailbox_205 rfl rfl ?_
              refine ev_iload d_Model_takeMailbox_206 rfl ?_
              refine mo_Vn [.int (nI 0), .int (nI a), .int (nI op)] [] ca_Model_takeMailbox_239 d_Model_takeMailbox_208 rfl (Nat.le_of_ble_eq_true rfl) (s_Model_makeName (v := 0) hT (by decide) hW2 hl hb o1 (by omega) hP (by omega) (by omega)) (fun h1 z => ?_)
              obtain ⟨R1, m1, rfl, p1, p2, p3⟩ := z
              refine ev_goto (tgt := 220) d_Model_takeMailbox_211 (by decide) ?_
              exact k_tm220 hT (wOk_R hW2 (fun j j1 j2 => p3 j (by simp; omega))) hl hb p1 (by rw [p3 18 (by decide)]; exact hg) hgl h2l hn hlt (by omega) e1 e2 e3 (by omega) (by omega) (by omega) hsI h25 (sm_mono p3 (by decide)) hN hmb2
          · refine ev_icmp_ge (tgt := 214) d_Model_takeMailbox_188 (by decide) (fun _ => ?_) (fun z => absurd (nI_le (by omega) (by omega)) z)
            exact cmt (t1 (Or.inl (by omega)))
    -- from 37 on
    have a37 : ∀ op : Nat, a ≤ op → op ≤ b → (∀ x ∈ ad_sl W a op, wIs x 60 = false) → (op < b → ∃ w, W[op]? = some w ∧ wIs w 60 = true) → ev_E G m_Model_takeMailbox 37 [(0, .ref M), (1, .int (nI a)), (2, .int (nI b)), (3, .int (bI un)), (4, .int g), (5, .int (nI op))] [] (mo_ov cI cZ h0 M I R) (cn (tmQ cI cZ h0 M I R P ml gs g a b (iv (gA W) a b) (nc (ad_sl W a b)) cm)) := by
      intro op o1 o2 o4 o3
      refine ev_iload_n d_Model_takeMailbox_37 rfl rfl ?_
      cases un with
      | true =>
        refine ev_if_eq (tgt := 52) d_Model_takeMailbox_38 (by decide) (fun z => absurd (show (1 : Int32) = 0 from z) (by decide)) (fun _ => ?_)
        refine ev_aload_n d_Model_takeMailbox_41 rfl rfl ?_
        refine ev_dup d_Model_takeMailbox_42 rfl ?_
        refine mo_get (fa_Model_227 rfl rfl) d_Model_takeMailbox_43 rfl ?_
        refine ev_iconst (v := 1) d_Model_takeMailbox_46 (by decide) ?_
        refine ev_iadd d_Model_takeMailbox_47 ?_
        refine mo_put (fp_Model_227 rfl rfl) d_Model_takeMailbox_48 (Nat.le_of_ble_eq_true rfl) rfl rfl rfl ?_
        refine ev_vret d_Model_takeMailbox_51 rfl ?_
        refine tbad I (sm_rf _ _) (mb_open cm ?_)
        unfold ad_an at hun ⊢
        rw [← an_nc]
        exact hun
      | false =>
        refine ev_if_eq (tgt := 52) d_Model_takeMailbox_38 (by decide) (fun _ => ?_) (fun z => absurd rfl z)
        refine ev_iload_n d_Model_takeMailbox_52 rfl rfl ?_
        refine ev_istore d_Model_takeMailbox_53 (by decide) ?_
        refine ev_iload_n d_Model_takeMailbox_55 rfl rfl ?_
        refine ev_istore d_Model_takeMailbox_56 (by decide) ?_
        refine ev_iconst (v := 1) d_Model_takeMailbox_58 (by decide) ?_
        refine ev_istore d_Model_takeMailbox_59 (by decide) ?_
        refine ev_iload d_Model_takeMailbox_61 rfl ?_
        refine ev_iload_n d_Model_takeMailbox_63 rfl rfl ?_
        by_cases hob : op < b
        · refine ev_icmp_ge (tgt := 146) d_Model_takeMailbox_64 (by decide) (fun z => absurd z (nI_ge hob (by omega))) (fun _ => ?_)
          obtain ⟨w, qw, w60⟩ := o3 hob
          obtain ⟨c, w', c1, c2, c3, c4⟩ := an_close hbW hun o1 hob qw w60
          have w0 : ¬ w.1 = 0 := fun z => by rw [wIs_0 z] at w60; cases w60
          have hA60 : ∀ x ∈ nc (ad_sl W a op), wIs x 60 = false := fun x hx => o4 x (nc_mem hx)
          have a88 : ∀ (cl : Nat) (wc : Int32 × Int32 × List Int32), op + 1 ≤ cl → cl < b → W[cl]? = some wc → wIs wc 62 = true → ev_E G m_Model_takeMailbox 88 [(0, .ref M), (1, .int (nI a)), (2, .int (nI b)), (3, .int (bI false)), (4, .int g), (5, .int (nI op)), (6, .int (nI a)), (7, .int (nI b)), (8, .int 1), (9, .int (nI cl))] [] (mo_ov cI cZ h0 M I R) (cn (tmQ cI cZ h0 M I R P ml gs g a b (iv (gA W) a b) (nc (ad_sl W a b)) cm)) := by
            intro cl wc l1 l2 qc wc62
            have wc0 : ¬ wc.1 = 0 := fun z => by rw [wIs_0 z] at wc62; cases wc62
            have hNN : nc (ad_sl W a b) = nc (ad_sl W a op) ++ w :: (nc (ad_sl W (op + 1) cl) ++ wc :: nc (ad_sl W (cl + 1) b)) := by
              rw [sl_cut (W := W) (a := a) (m := op) (b := b) o1 o2 hbW, nc_app, sl_step hob hbW qw, nc_cons, if_neg w0, sl_cut (W := W) (a := op + 1) (m := cl) (b := b) l1 (by omega) hbW, nc_app, sl_step l2 hbW qc, nc_cons, if_neg wc0]
            refine ev_aload_n d_Model_takeMailbox_88 rfl rfl ?_
            refine ev_iload d_Model_takeMailbox_89 rfl ?_
            refine ev_iconst (v := 1) d_Model_takeMailbox_91 (by decide) ?_
            refine ev_iadd d_Model_takeMailbox_92 ?_
            rw [nI_1]
            refine ev_iload d_Model_takeMailbox_93 rfl ?_
            refine mo_Vr [.int (nI (op + 1)), .int (nI cl)] [] ca_Model_takeMailbox_230 d_Model_takeMailbox_95 rfl (Nat.le_of_ble_eq_true rfl) (s_Model_behindRoute hT hW hl l1 (by omega)) (fun v h1 z => ?_)
            obtain ⟨⟨sf, rfl, f1, f2, f3⟩, z⟩ := z
            obtain rfl := z.symm
            have fin : ∀ gd : Int32, (gd = 0 ∧ ad_mb (nc (ad_sl W a b)) cm = none ∨ gd = 1 ∧ ad_mb (nc (ad_sl W a b)) cm = ad_fin (if (nc (ad_sl W a op)).length = 0 then cm else ad_nT false (nc (ad_sl W a op))) (nc (ad_sl W sf cl))) → ev_E G m_Model_takeMailbox 144 [(0, .ref M), (1, .int (nI a)), (2, .int (nI b)), (3, .int (bI false)), (4, .int g), (5, .int (nI op)), (6, .int (nI sf)), (7, .int (nI cl)), (8, .int 1), (9, .int (nI cl))] [.int gd] (mo_ov cI cZ h0 M I R) (cn (tmQ cI cZ h0 M I R P ml gs g a b (iv (gA W) a b) (nc (ad_sl W a b)) cm)) := by
              intro gd hgd
              refine ev_istore d_Model_takeMailbox_144 (by decide) ?_
              refine ev_as [(0, .ref M), (1, .int (nI a)), (2, .int (nI b)), (3, .int (bI false)), (4, .int g), (5, .int (nI op)), (6, .int (nI sf)), (7, .int (nI cl)), (8, .int gd)] ⟨rfl, rfl, rfl, rfl, rfl, rfl, rfl, rfl, rfl, trivial⟩ ?_
              refine a146 op sf cl gd _ o1 o2 (by omega) f2 (by omega) (fun _ => by omega) (fun z => ?_) (fun _ z => ?_) hgd
              · rcases z with z | z
                · omega
                · exact if_pos (by rw [z]; rfl)
              · exact if_neg (fun y => z (List.length_eq_zero_iff.mp y))
            have hn5 := nx_le W (a := cl + 1) (b := b) (by omega) hbW
            have hn6 := nx_le W (a := a) (b := op) o1 (by omega)
            refine ev_istore d_Model_takeMailbox_98 (by decide) ?_
            refine ev_iload d_Model_takeMailbox_100 rfl ?_
            refine ev_istore d_Model_takeMailbox_102 (by decide) ?_
            refine ev_aload_n d_Model_takeMailbox_104 rfl rfl ?_
            refine ev_iload d_Model_takeMailbox_105 rfl ?_
            refine ev_iconst (v := 1) d_Model_takeMailbox_107 (by decide) ?_
            refine ev_iadd d_Model_takeMailbox_108 ?_
            rw [nI_1]
            refine ev_iload_n d_Model_takeMailbox_109 rfl rfl ?_
            refine mo_Vv [.int (nI (cl + 1)), .int (nI b)] [] ca_Model_takeMailbox_197 d_Model_takeMailbox_110 rfl (Nat.le_of_ble_eq_true rfl) (c_Model_next hT hW hl hbW (by omega)) ?_
            refine ev_iload_n d_Model_takeMailbox_113 rfl rfl ?_
            by_cases hq3 : nx W (cl + 1) b = b
            · have hN3 := (nx_iff (a := cl + 1) (by omega) hbW).mp hq3
              refine ev_icmp_ne (tgt := 143) d_Model_takeMailbox_114 (by decide) (fun z => absurd (by rw [hq3]) z) (fun _ => ?_)
              refine ev_aload_n d_Model_takeMailbox_117 rfl rfl ?_
              refine ev_iload_n d_Model_takeMailbox_118 rfl rfl ?_
              refine ev_iload d_Model_takeMailbox_119 rfl ?_
              refine mo_Vv [.int (nI a), .int (nI op)] [] ca_Model_takeMailbox_197 d_Model_takeMailbox_121 rfl (Nat.le_of_ble_eq_true rfl) (c_Model_next hT hW hl (by omega) (by omega)) ?_
              refine ev_iload d_Model_takeMailbox_124 rfl ?_
              have good : ad_all (nc (ad_sl W a op)) = true → (1 : Int32) = 0 ∧ ad_mb (nc (ad_sl W a b)) cm = none ∨ (1 : Int32) = 1 ∧ ad_mb (nc (ad_sl W a b)) cm = ad_fin (if (nc (ad_sl W a op)).length = 0 then cm else ad_nT false (nc (ad_sl W a op))) (nc (ad_sl W sf cl)) := by
                intro hal
                refine Or.inr ⟨rfl, ?_⟩
                rw [hNN, hN3, f3]
                exact mb_good cm hA60 w60 wc62 hal
              by_cases hq4 : nx W a op = op
              · have hA := (nx_iff o1 (by omega)).mp hq4
                refine ev_icmp_eq (tgt := 139) d_Model_takeMailbox_126 (by decide) (fun _ => ?_) (fun z => absurd (by rw [hq4]) z)
                refine ev_iconst (v := 1) d_Model_takeMailbox_139 (by decide) ?_
                refine ev_goto (tgt := 144) d_Model_takeMailbox_140 (by decide) ?_
                exact fin 1 (good (by rw [hA]; rfl))
              · refine ev_icmp_eq (tgt := 139) d_Model_takeMailbox_126 (by decide) (fun z => absurd ((nI_eq (by omega) (by omega)).mp z) hq4) (fun _ => ?_)
                refine ev_aload_n d_Model_takeMailbox_129 rfl rfl ?_
                refine ev_iload_n d_Model_takeMailbox_130 rfl rfl ?_
                refine ev_iload d_Model_takeMailbox_131 rfl ?_
                refine mo_Vv [.int (nI a), .int (nI op)] [] ca_Model_takeMailbox_233 d_Model_takeMailbox_133 rfl (Nat.le_of_ble_eq_true rfl) (s_Model_isName hT hW hl o1 (by omega)) ?_
                have hpos : 0 < (nc (ad_sl W a op)).length := by
                  rcases Nat.eq_zero_or_pos (nc (ad_sl W a op)).length with z | z
                  · exact absurd ((nx_iff o1 (by omega)).mpr (List.length_eq_zero_iff.mp z)) hq4
                  · exact z
                rw [decide_eq_true hpos, Bool.and_true]
                cases hal : ad_all (nc (ad_sl W a op)) with
                | false =>
                  refine ev_if_eq (tgt := 143) d_Model_takeMailbox_136 (by decide) (fun _ => ?_) (fun z => absurd rfl z)
                  refine ev_iconst (v := 0) d_Model_takeMailbox_143 (by decide) ?_
                  refine fin 0 (Or.inl ⟨rfl, ?_⟩)
                  rw [hNN]
                  exact mb_bad1 cm hA60 w60 hal
                | true =>
                  refine ev_if_eq (tgt := 143) d_Model_takeMailbox_136 (by decide) (fun z => absurd (show (1 : Int32) = 0 from z) (by decide)) (fun _ => ?_)
                  refine ev_iconst (v := 1) d_Model_takeMailbox_139 (by decide) ?_
                  refine ev_goto (tgt := 144) d_Model_takeMailbox_140 (by decide) ?_
                  exact fin 1 (good hal)
            · refine ev_icmp_ne (tgt := 143) d_Model_takeMailbox_114 (by decide) (fun _ => ?_) (fun z => absurd ((nI_eq (by omega) (by omega)).mp z) hq3)
              refine ev_iconst (v := 0) d_Model_takeMailbox_143 (by decide) ?_
              refine fin 0 (Or.inl ⟨rfl, ?_⟩)
              rw [hNN]
              exact mb_bad2 cm hA60 w60 wc62 (fun z => hq3 ((nx_iff (a := cl + 1) (by omega) hbW).mpr z))
          have loop : ∀ (n k : Nat), k + n = c → op ≤ k → ev_E G m_Model_takeMailbox 71 [(0, .ref M), (1, .int (nI a)), (2, .int (nI b)), (3, .int (bI false)), (4, .int g), (5, .int (nI op)), (6, .int (nI a)), (7, .int (nI b)), (8, .int 1), (9, .int (nI k))] [] (mo_ov cI cZ h0 M I R) (cn (tmQ cI cZ h0 M I R P ml gs g a b (iv (gA W) a b) (nc (ad_sl W a b)) cm)) := by
            intro n
            induction n with
            | zero =>
              intro k hk hok
              have hkc : k = c := by omega
              subst hkc
              refine ev_aload_n d_Model_takeMailbox_71 rfl rfl ?_
              refine ev_iload d_Model_takeMailbox_72 rfl ?_
              refine ev_bipush (v := 62) d_Model_takeMailbox_74 (by decide) ?_
              refine mo_Vv [.int (nI k), .int 62] [] ca_Model_takeMailbox_200 d_Model_takeMailbox_76 rfl (Nat.le_of_ble_eq_true rfl) (c_Model_is hT hW hl c3 62) ?_
              rw [c4]
              refine ev_if_ne (tgt := 88) d_Model_takeMailbox_79 (by decide) (fun _ => ?_) (fun z => absurd (show (1 : Int32) = 0 from z) (by decide))
              exact a88 k w' (by omega) c2 c3 c4
            | succ n ih =>
              intro k hk hok
              have qk : W[k]? = some W[k] := List.getElem?_eq_getElem (by omega)
              generalize W[k] = wk at qk
              refine ev_aload_n d_Model_takeMailbox_71 rfl rfl ?_
              refine ev_iload d_Model_takeMailbox_72 rfl ?_
              refine ev_bipush (v := 62) d_Model_takeMailbox_74 (by decide) ?_
              refine mo_Vv [.int (nI k), .int 62] [] ca_Model_takeMailbox_200 d_Model_takeMailbox_76 rfl (Nat.le_of_ble_eq_true rfl) (c_Model_is hT hW hl qk 62) ?_
              cases hw : wIs wk 62 with
              | true =>
                refine ev_if_ne (tgt := 88) d_Model_takeMailbox_79 (by decide) (fun _ => ?_) (fun z => absurd (show (1 : Int32) = 0 from z) (by decide))
                have hne : k ≠ op := fun z => by
                  subst z
                  rw [qw] at qk
                  cases qk
                  rw [wIs_ne w60 (by decide)] at hw
                  cases hw
                exact a88 k wk (by omega) (by omega) qk hw
              | false =>
                refine ev_if_ne (tgt := 88) d_Model_takeMailbox_79 (by decide) (fun z => absurd rfl z) (fun _ => ?_)
                refine ev_iinc d_Model_takeMailbox_82 rfl (by decide) ?_
                refine ev_goto (tgt := 71) d_Model_takeMailbox_85 (by decide) ?_
                rw [show nI k + Int32.ofInt 1 = nI (k + 1) from nI_1 k]
                exact ih (k + 1) (by omega) (by omega)
          refine ev_iload d_Model_takeMailbox_67 rfl ?_
          refine ev_istore d_Model_takeMailbox_69 (by decide) ?_
          exact loop (c - op) op (by omega) (Nat.le_refl _)
        · have hop : op = b := by omega
          subst hop
          refine ev_icmp_ge (tgt := 146) d_Model_takeMailbox_64 (by decide) (fun _ => ?_) (fun z => absurd (nI_le (Nat.le_refl _) (by omega)) z)
          refine a146 op a op 1 cm o1 o2 (Nat.le_refl _) hab (Nat.le_refl _) (fun z => by omega) (fun _ => rfl) (fun z => by omega) (Or.inr ⟨rfl, ?_⟩)
          exact mb_plain cm (fun x hx => o4 x (nc_mem hx))
    have loop : ∀ (n k : Nat), b ≤ k + n → a ≤ k → k ≤ b → (∀ x ∈ ad_sl W a k, wIs x 60 = false) → ev_E G m_Model_takeMailbox 14 [(0, .ref M), (1, .int (nI a)), (2, .int (nI b)), (3, .int (bI un)), (4, .int g), (5, .int (nI k))] [] (mo_ov cI cZ h0 M I R) (cn (tmQ cI cZ h0 M I R P ml gs g a b (iv (gA W) a b) (nc (ad_sl W a b)) cm)) := by
      intro n
      induction n with
      | zero =>
        intro k hk hak hkb hno
        refine ev_iload d_Model_takeMailbox_14 rfl ?_
        refine ev_iload_n d_Model_takeMailbox_16 rfl rfl ?_
        refine ev_icmp_ge (tgt := 37) d_Model_takeMailbox_17 (by decide) (fun _ => ?_) (fun z => absurd (nI_le (by omega) (by omega)) z)
        exact a37 k hak hkb hno (fun z => by omega)
      | succ n ih =>
        intro k hk hak hkb hno
        refine ev_iload d_Model_takeMailbox_14 rfl ?_
        refine ev_iload_n d_Model_takeMailbox_16 rfl rfl ?_
        refine ev_icmp_ge (tgt := 37) d_Model_takeMailbox_17 (by decide) (fun c_17 => ?_) (fun c_17 => ?_)
        · exact a37 k hak hkb hno (fun z => by have := (nI_leI (by omega) (by omega)).mp c_17; omega)
        · have hkb2 := lt_of_nge (by omega) c_17
          have qk : W[k]? = some W[k] := List.getElem?_eq_getElem (by omega)
          generalize W[k] = wk at qk
          refine ev_aload_n d_Model_takeMailbox_20 rfl rfl ?_
          refine ev_iload d_Model_takeMailbox_21 rfl ?_
          refine ev_bipush (v := 60) d_Model_takeMailbox_23 (by decide) ?_
          refine mo_Vv [.int (nI k), .int 60] [] ca_Model_takeMailbox_200 d_Model_takeMailbox_25 rfl (Nat.le_of_ble_eq_true rfl) (c_Model_is hT hW hl qk 60) ?_
          cases hw : wIs wk 60 with
          | true =>
            refine ev_if_ne (tgt := 37) d_Model_takeMailbox_28 (by decide) (fun _ => ?_) (fun z => absurd (show (1 : Int32) = 0 from z) (by decide))
            exact a37 k hak hkb hno (fun _ => ⟨wk, qk, hw⟩)
          | false =>
            refine ev_if_ne (tgt := 37) d_Model_takeMailbox_28 (by decide) (fun z => absurd rfl z) (fun _ => ?_)
            refine ev_iinc d_Model_takeMailbox_31 rfl (by decide) ?_
            refine ev_goto (tgt := 14) d_Model_takeMailbox_34 (by decide) ?_
            rw [show nI k + Int32.ofInt 1 = nI (k + 1) from nI_1 k]
            refine ih (k + 1) (by omega) (by omega) (by omega) (fun x hx => ?_)
            rw [sl_snoc hak qk] at hx
            rcases List.mem_append.mp hx with z | z
            · exact hno x z
            · rw [List.mem_singleton.mp z]; exact hw
    refine ev_iload_n d_Model_takeMailbox_11 rfl rfl ?_
    refine ev_istore d_Model_takeMailbox_12 (by decide) ?_
    exact loop (b - a) a (by omega) (Nat.le_refl _) hab (fun x hx => by rw [sl_nil (Nat.le_refl a)] at hx; cases hx)
end ADS3
