section ADR3
variable {G : gl_G} {cI cZ : ClassId} {h0 : hp_T} {M : Nat} {W : Wds} {P : Pts} {ml : Nat → Nat} {gs : List Int32}
/-- what takeMailbox leaves: nothing made, or one mailbox -/
def tmP (cI cZ : ClassId) (h0 : hp_T) (M : Nat) (I : Nat → Int32) (R : Nat → Nat → Int32) (P : Pts) (ml : Nat → Nat) (gs : List Int32) (g : Int32) (a b c : Nat) : hp_T → Prop := fun h' => ∃ I' R', h' = mo_ov cI cZ h0 M I' R' ∧ sm [25, 42, 43] I I' ∧ sm [13, 14, 15, 16, 17, 18] R R' ∧ (R' = R ∨ a < b ∧ ∃ (l0 l1 l2 : List Int32) (m : Nat), pOk (va_up (va_up (va_up P 0 (P 0 ++ [l0])) 1 (P 1 ++ [l1])) 2 (P 2 ++ [l2])) (upN ml 0 m) R' ∧ m ≤ ml 0 + c ∧ hol (R' 18) 0 (gs ++ [g]))
theorem tm_bad {I I2 : Nat → Int32} {R : Nat → Nat → Int32} {g x : Int32} {a b c : Nat} (h : sm [25, 42, 43] I I2) : tmP cI cZ h0 M I R P ml gs g a b c (mo_ov cI cZ h0 M (upd I2 25 x) R) := ⟨_, R, rfl, sm_tr h (sm_upd (by decide)), sm_rf _ _, Or.inl rfl⟩
/-- from 220 on: the name is made -/
theorem l_tm220 (hT : (gl_t G)[0]? = some (cI, .int)) {I I0 : Nat → Int32} {R R0 : Nat → Nat → Int32} (hW : wOk W I R) (hl : W.length ≤ 1501) (hb : (wB W).length ≤ 1600) {l0 : List Int32} {m1 : Nat} (hP : pOk (va_up P 0 (P 0 ++ [l0])) (upN ml 0 m1) R) (hg : hol (R 18) 0 gs) (hgl : gs.length = (P 1).length) (h2l : (P 2).length = (P 1).length) (hn : (P 1).length < 1000) {g x1 x3 x5 x8 : Int32} {a b c sf st e d : Nat} (hab : a < b) (hbW : b ≤ 1501) (q1 : sf ≤ e) (q2 : e ≤ d) (q3 : d ≤ st) (q4 : st ≤ W.length) (hc1 : m1 + iv (gN W) sf st ≤ 5890) (hc2 : m1 + iv (gN W) sf st ≤ ml 0 + c) (sI : sm [25, 42, 43] I0 I) (sR : sm [13, 14, 15, 16, 17, 18] R0 R) :
    ev_E G m_Model_takeMailbox 220 [(0, .ref M), (1, .int x1), (2, .int (nI b)), (3, .int x3), (4, .int g), (5, .int x5), (6, .int (nI sf)), (7, .int (nI st)), (8, .int x8), (9, .int (nI e)), (10, .int (nI d))] [] (mo_ov cI cZ h0 M I R) (cn (tmP cI cZ h0 M I0 R0 P ml gs g a b c)) := by
  have hcut := iv_cut (gN W) (x := sf) (m := e) (y := st) q1 (by omega)
  have hcut2 := iv_mono (gN W) (x := e) (x' := d) (y := st) q2
  have i15 : vp_in (1 : Int32) (mo_len 15) := pk_in 1 7 (by decide)
  have i18 : vp_in (nI (P 1).length) (mo_len 18) := vp_in_nI (show (P 1).length < 1000 by omega) (by decide)
  have r15 : R 15 1 = nI (P 1).length := by
    have := (hP.2 1 (by decide)).1
    rw [up_ne (by decide)] at this
    exact this
  refine ev_aload_n d_Model_takeMailbox_220 rfl rfl ?_
  refine mo_get (fa_Model_61 rfl rfl) d_Model_takeMailbox_221 rfl ?_
  refine ev_aload_n d_Model_takeMailbox_224 rfl rfl ?_
  refine mo_get (fa_Model_52 rfl rfl) d_Model_takeMailbox_225 rfl ?_
  refine ev_iconst (v := 1) d_Model_takeMailbox_228 (by decide) ?_
  refine mo_ald hT d_Model_takeMailbox_229 (by decide) i15 ?_
  rw [show (1 : Int32).toNatClampNeg = 1 from rfl, r15]
  refine ev_iload d_Model_takeMailbox_230 rfl ?_
  refine mo_ast hT d_Model_takeMailbox_232 (by decide) i18 ?_
  rw [nI_clamp (by omega)]
  have s18 : sm [18] R (va_up R 18 (upd (R 18) (P 1).length g)) := sm_up (by decide)
  have hg2 : hol (va_up R 18 (upd (R 18) (P 1).length g) 18) 0 (gs ++ [g]) := by
    rw [va_up_self, ← hgl]
    have := hol_snoc hg g
    rw [Nat.zero_add] at this
    exact this
  generalize va_up R 18 (upd (R 18) (P 1).length g) = R1 at s18 hg2 ⊢
  have hW1 : wOk W I R1 := wOk_R hW (fun j j1 j2 => s18 j (by simp; omega))
  have hP1 : pOk (va_up P 0 (P 0 ++ [l0])) (upN ml 0 m1) R1 := pOk_R hP (fun j j1 j2 => s18 j (by simp; omega))
  refine ev_aload_n d_Model_takeMailbox_233 rfl rfl ?_
  refine ev_iconst (v := 1) d_Model_takeMailbox_234 (by decide) ?_
  refine ev_iload d_Model_takeMailbox_235 rfl ?_
  refine ev_iload d_Model_takeMailbox_237 rfl ?_
  refine mo_Vn [.int (nI 1), .int (nI sf), .int (nI e)] [] ca_Model_takeMailbox_245 d_Model_takeMailbox_239 rfl (Nat.le_of_ble_eq_true rfl) (c_Model_makeWords (v := 1) hT (by decide) hW1 hl hb q1 (by omega) hP1 (by rw [up_ne (by decide)]; exact hn) (by rw [upN_at]; omega)) (fun h1 z => ?_)
  obtain ⟨l1, R2, m2, rfl, p1, p2, p3⟩ := z
  rw [upN_at] at p2
  rw [upN_same, up_ne (by decide)] at p1
  have hW2 : wOk W I R2 := wOk_R hW1 (fun j j1 j2 => p3 j (by simp; omega))
  refine ev_aload_n d_Model_takeMailbox_242 rfl rfl ?_
  refine ev_iconst (v := 2) d_Model_takeMailbox_243 (by decide) ?_
  refine ev_iload d_Model_takeMailbox_244 rfl ?_
  refine ev_iload d_Model_takeMailbox_246 rfl ?_
  refine mo_Vn [.int (nI 2), .int (nI d), .int (nI st)] [] ca_Model_takeMailbox_245 d_Model_takeMailbox_248 rfl (Nat.le_of_ble_eq_true rfl) (c_Model_makeWords (v := 2) hT (by decide) hW2 hl hb q3 q4 p1 (by rw [up_ne (by decide), up_ne (by decide), h2l]; exact hn) (by rw [upN_at]; omega)) (fun h1 z => ?_)
  obtain ⟨l2, R3, m3, rfl, p4, p5, p6⟩ := z
  rw [upN_at] at p5
  rw [upN_same, up_ne (show 2 ≠ 1 by decide), up_ne (show 2 ≠ 0 by decide)] at p4
  refine ev_vret d_Model_takeMailbox_251 rfl ?_
  refine ⟨rfl, I, R3, rfl, sI, sm_tr sR (sm_tr (sm_mono s18 (by decide)) (sm_tr (sm_mono p3 (by decide)) (sm_mono p6 (by decide)))), Or.inr ⟨hab, l0, l1, l2, m3, p4, by omega, ?_⟩⟩
  rw [p6 18 (by decide), p3 18 (by decide)]
  exact hg2
theorem c_Model_takeMailbox (hT : (gl_t G)[0]? = some (cI, .int)) {I : Nat → Int32} {R : Nat → Nat → Int32} (hW : wOk W I R) (hl : W.length ≤ 1501) (hb : (wB W).length ≤ 1600) {a b : Nat} (hab : a ≤ b) (hbW : b ≤ W.length) (hP : pOk P ml R) (hg : hol (R 18) 0 gs) (hgl : gs.length = (P 1).length) (h0l : (P 0).length = (P 1).length) (h2l : (P 2).length = (P 1).length) (hn : (P 1).length < 1000) (hm : ml 0 + iv (gA W) a b ≤ 5890) (un g : Int32) (hun : un = 0 → ∀ o w, a ≤ o → o < b → W[o]? = some w → wIs w 60 = true → ∃ c w', o < c ∧ c < b ∧ W[c]? = some w' ∧ wIs w' 62 = true) :
    ct_E G m_Model_takeMailbox [.ref M, .int (nI a), .int (nI b), .int un, .int g] (mo_ov cI cZ h0 M I R) (cn (tmP cI cZ h0 M I R P ml gs g a b (iv (gA W) a b))) := by
  have hNC := iv_add (gNC W) a b
  have hnx := nx_le W hab hbW
  have hng := nx_ge W a b
  refine ct_of (ws' := tb_all) rfl rfl (Nat.le_of_ble_eq_true rfl) ?_
  refine ev_aload_n d_Model_takeMailbox_0 rfl rfl ?_
  refine ev_iload_n d_Model_takeMailbox_1 rfl rfl ?_
  refine ev_iload_n d_Model_takeMailbox_2 rfl rfl ?_
  refine mo_Vv [.int (nI a), .int (nI b)] [] ca_Model_takeMailbox_197 d_Model_takeMailbox_3 rfl (Nat.le_of_ble_eq_true rfl) (c_Model_next hT hW hl hbW (by omega)) ?_
  refine ev_iload_n d_Model_takeMailbox_6 rfl rfl ?_
  refine ev_icmp_ne (tgt := 11) d_Model_takeMailbox_7 (by decide) (fun c_7 => ?_) (fun c_7 => ?_)
  rotate_left
  · refine ev_vret d_Model_takeMailbox_10 rfl ?_
    exact ⟨rfl, I, R, rfl, sm_rf _ _, sm_rf _ _, Or.inl rfl⟩
  · have hlt : a < b := by
      rcases Nat.lt_or_ge a b with q | q
      · exact q
      · exact absurd (by rw [nx_out W q, show a = b by omega]) c_7
    -- from 146 on
    have a146 : ∀ (op sf st : Nat) (gd : Int32), a ≤ op → op ≤ b → a ≤ sf → sf ≤ st → st ≤ b → (op < b → op ≤ sf) → ev_E G m_Model_takeMailbox 146 [(0, .ref M), (1, .int (nI a)), (2, .int (nI b)), (3, .int un), (4, .int g), (5, .int (nI op)), (6, .int (nI sf)), (7, .int (nI st)), (8, .int gd)] [] (mo_ov cI cZ h0 M I R) (cn (tmP cI cZ h0 M I R P ml gs g a b (iv (gA W) a b))) := by
      intro op sf st gd o1 o2 s1 s2 s3 s4
      have bad : ∀ I2, sm [25, 42, 43] I I2 → ev_E G m_Model_takeMailbox 162 [(0, .ref M), (1, .int (nI a)), (2, .int (nI b)), (3, .int un), (4, .int g), (5, .int (nI op)), (6, .int (nI sf)), (7, .int (nI st)), (8, .int gd)] [] (mo_ov cI cZ h0 M I2 R) (cn (tmP cI cZ h0 M I R P ml gs g a b (iv (gA W) a b))) := by
        intro I2 hs
        refine ev_aload_n d_Model_takeMailbox_162 rfl rfl ?_
        refine ev_dup d_Model_takeMailbox_163 rfl ?_
        refine mo_get (fa_Model_227 rfl rfl) d_Model_takeMailbox_164 rfl ?_
        refine ev_iconst (v := 1) d_Model_takeMailbox_167 (by decide) ?_
        refine ev_iadd d_Model_takeMailbox_168 ?_
        refine mo_put (fp_Model_227 rfl rfl) d_Model_takeMailbox_169 (Nat.le_of_ble_eq_true rfl) rfl rfl rfl ?_
        refine ev_vret d_Model_takeMailbox_172 rfl ?_
        exact ⟨rfl, tm_bad hs⟩
      refine ev_iload d_Model_takeMailbox_146 rfl ?_
      refine ev_if_eq (tgt := 162) d_Model_takeMailbox_148 (by decide) (fun c_148 => ?_) (fun c_148 => ?_)
      · exact bad I (sm_rf _ _)
      · refine ev_aload_n d_Model_takeMailbox_151 rfl rfl ?_
        refine ev_iload d_Model_takeMailbox_152 rfl ?_
        refine ev_iload d_Model_takeMailbox_154 rfl ?_
        refine mo_Vr [.int (nI sf), .int (nI st)] [] ca_Model_takeMailbox_236 d_Model_takeMailbox_156 rfl (Nat.le_of_ble_eq_true rfl) (c_Model_isSpec hT hW hl s2 (by omega)) (fun v h1 z => ?_)
        obtain ⟨z, e, d, rfl, rfl, e1, e2, e3⟩ := z
        have hsI : sm [25, 42, 43] I (upd (upd I 42 (nI e)) 43 (nI d)) := sm_tr (sm_upd (by decide)) (sm_upd (by decide))
        have hW2 : wOk W (upd (upd I 42 (nI e)) 43 (nI d)) R := wOk_I hW rfl rfl
        refine ev_if_ne (tgt := 173) d_Model_takeMailbox_159 (by decide) (fun c_159 => ?_) (fun c_159 => ?_)
        rotate_left
        · exact bad _ hsI
        · have h42 : (upd (upd I 42 (nI e)) 43 (nI d)) 42 = nI e := rfl
          have h43 : (upd (upd I 42 (nI e)) 43 (nI d)) 43 = nI d := by simp [upd]
          refine ev_aload_n d_Model_takeMailbox_173 rfl rfl ?_
          refine mo_get (fa_Model_221 rfl rfl) d_Model_takeMailbox_174 rfl ?_
          rw [h42]
          refine ev_istore d_Model_takeMailbox_177 (by decide) ?_
          refine ev_aload_n d_Model_takeMailbox_179 rfl rfl ?_
          refine mo_get (fa_Model_224 rfl rfl) d_Model_takeMailbox_180 rfl ?_
          rw [h43]
          refine ev_istore d_Model_takeMailbox_183 (by decide) ?_
          refine ev_iload d_Model_takeMailbox_185 rfl ?_
          refine ev_iload_n d_Model_takeMailbox_187 rfl rfl ?_
          generalize upd (upd I 42 (nI e)) 43 (nI d) = I2 at hsI hW2 ⊢
          have hmN := iv_mono (gN W) (x := a) (x' := sf) (y := b) s1
          have hmN2 := iv_monoR (gN W) (x := sf) (y := st) (y' := b) s3
          have cmt : ev_E G m_Model_takeMailbox 214 [(0, .ref M), (1, .int (nI a)), (2, .int (nI b)), (3, .int un), (4, .int g), (5, .int (nI op)), (6, .int (nI sf)), (7, .int (nI st)), (8, .int gd), (9, .int (nI e)), (10, .int (nI d))] [] (mo_ov cI cZ h0 M I2 R) (cn (tmP cI cZ h0 M I R P ml gs g a b (iv (gA W) a b))) := by
            refine ev_aload_n d_Model_takeMailbox_214 rfl rfl ?_
            refine ev_iload_n d_Model_takeMailbox_215 rfl rfl ?_
            refine ev_iload_n d_Model_takeMailbox_216 rfl rfl ?_
            refine mo_Vn [.int (nI a), .int (nI b)] [] ca_Model_takeMailbox_242 d_Model_takeMailbox_217 rfl (Nat.le_of_ble_eq_true rfl) (c_Model_makeComment hT hW2 hl hb hab hbW hP (by omega) (by omega)) (fun h1 z => ?_)
            obtain ⟨l0, R1, m1, rfl, p1, p2, p3⟩ := z
            exact l_tm220 hT (wOk_R hW2 (fun j j1 j2 => p3 j (by simp; omega))) hl hb p1 (by rw [p3 18 (by decide)]; exact hg) hgl h2l hn hlt (by omega) e1 e2 e3 (by omega) (by omega) (by omega) hsI (sm_mono p3 (by decide))
          refine ev_icmp_ge (tgt := 214) d_Model_takeMailbox_188 (by decide) (fun c_188 => ?_) (fun c_188 => ?_)
          · exact cmt
          · have hob := lt_of_nge (by omega) c_188
            refine ev_aload_n d_Model_takeMailbox_191 rfl rfl ?_
            refine ev_iload_n d_Model_takeMailbox_192 rfl rfl ?_
            refine ev_iload d_Model_takeMailbox_193 rfl ?_
            refine mo_Vv [.int (nI a), .int (nI op)] [] ca_Model_takeMailbox_197 d_Model_takeMailbox_195 rfl (Nat.le_of_ble_eq_true rfl) (c_Model_next hT hW2 hl (by omega) (by omega)) ?_
            refine ev_iload d_Model_takeMailbox_198 rfl ?_
            refine ev_icmp_ge (tgt := 214) d_Model_takeMailbox_200 (by decide) (fun c_200 => ?_) (fun c_200 => ?_)
            · exact cmt
            · have hcut := iv_cut (gN W) (x := a) (m := op) (y := b) o1 o2
              have hmN3 := iv_mono (gN W) (x := op) (x' := sf) (y := b) (s4 hob)
              refine ev_aload_n d_Model_takeMailbox_203 rfl rfl ?_
              refine ev_iconst (v := 0) d_Model_takeMailbox_204 (by decide) ?_
              refine ev_iload_n d_Model_takeMailbox_205 rfl rfl ?_
              refine ev_iload d_Model_takeMailbox_206 rfl ?_
              refine mo_Vn [.int (nI 0), .int (nI a), .int (nI op)] [] ca_Model_takeMailbox_239 d_Model_takeMailbox_208 rfl (Nat.le_of_ble_eq_true rfl) (c_Model_makeName (v := 0) hT (by decide) hW2 hl hb o1 (by omega) hP (by omega) (by omega)) (fun h1 z => ?_)
              obtain ⟨l0, R1, m1, rfl, p1, p2, p3⟩ := z
              refine ev_goto (tgt := 220) d_Model_takeMailbox_211 (by decide) ?_
              exact l_tm220 hT (wOk_R hW2 (fun j j1 j2 => p3 j (by simp; omega))) hl hb p1 (by rw [p3 18 (by decide)]; exact hg) hgl h2l hn hlt (by omega) e1 e2 e3 (by omega) (by omega) (by omega) hsI (sm_mono p3 (by decide))
    -- from 37 on
    have a37 : ∀ op : Nat, a ≤ op → op ≤ b → (op < b → ∃ w, W[op]? = some w ∧ wIs w 60 = true) → ev_E G m_Model_takeMailbox 37 [(0, .ref M), (1, .int (nI a)), (2, .int (nI b)), (3, .int un), (4, .int g), (5, .int (nI op))] [] (mo_ov cI cZ h0 M I R) (cn (tmP cI cZ h0 M I R P ml gs g a b (iv (gA W) a b))) := by
      intro op o1 o2 o3
      refine ev_iload_n d_Model_takeMailbox_37 rfl rfl ?_
      refine ev_if_eq (tgt := 52) d_Model_takeMailbox_38 (by decide) (fun c_38 => ?_) (fun c_38 => ?_)
      rotate_left
      · refine ev_aload_n d_Model_takeMailbox_41 rfl rfl ?_
        refine ev_dup d_Model_takeMailbox_42 rfl ?_
        refine mo_get (fa_Model_227 rfl rfl) d_Model_takeMailbox_43 rfl ?_
        refine ev_iconst (v := 1) d_Model_takeMailbox_46 (by decide) ?_
        refine ev_iadd d_Model_takeMailbox_47 ?_
        refine mo_put (fp_Model_227 rfl rfl) d_Model_takeMailbox_48 (Nat.le_of_ble_eq_true rfl) rfl rfl rfl ?_
        refine ev_vret d_Model_takeMailbox_51 rfl ?_
        exact ⟨rfl, tm_bad (sm_rf _ _)⟩
      · have hun0 : un = 0 := c_38
        refine ev_iload_n d_Model_takeMailbox_52 rfl rfl ?_
        refine ev_istore d_Model_takeMailbox_53 (by decide) ?_
        refine ev_iload_n d_Model_takeMailbox_55 rfl rfl ?_
        refine ev_istore d_Model_takeMailbox_56 (by decide) ?_
        refine ev_iconst (v := 1) d_Model_takeMailbox_58 (by decide) ?_
        refine ev_istore d_Model_takeMailbox_59 (by decide) ?_
        refine ev_iload d_Model_takeMailbox_61 rfl ?_
        refine ev_iload_n d_Model_takeMailbox_63 rfl rfl ?_
        refine ev_icmp_ge (tgt := 146) d_Model_takeMailbox_64 (by decide) (fun c_64 => ?_) (fun c_64 => ?_)
        · exact a146 op a b 1 o1 o2 (Nat.le_refl _) hab (Nat.le_refl _) (fun z => by have := (nI_leI (by omega) (by omega)).mp c_64; omega)
        · have hob := lt_of_nge (by omega) c_64
          obtain ⟨w, qw, w60⟩ := o3 hob
          obtain ⟨c, w', c1, c2, c3, c4⟩ := hun hun0 op w o1 hob qw w60
          have a88 : ∀ cl : Nat, op + 1 ≤ cl → cl < b → ev_E G m_Model_takeMailbox 88 [(0, .ref M), (1, .int (nI a)), (2, .int (nI b)), (3, .int un), (4, .int g), (5, .int (nI op)), (6, .int (nI a)), (7, .int (nI b)), (8, .int 1), (9, .int (nI cl))] [] (mo_ov cI cZ h0 M I R) (cn (tmP cI cZ h0 M I R P ml gs g a b (iv (gA W) a b))) := by
            intro cl l1 l2
            refine ev_aload_n d_Model_takeMailbox_88 rfl rfl ?_
            refine ev_iload d_Model_takeMailbox_89 rfl ?_
            refine ev_iconst (v := 1) d_Model_takeMailbox_91 (by decide) ?_
            refine ev_iadd d_Model_takeMailbox_92 ?_
            rw [nI_1]
            refine ev_iload d_Model_takeMailbox_93 rfl ?_
            refine mo_Vr [.int (nI (op + 1)), .int (nI cl)] [] ca_Model_takeMailbox_230 d_Model_takeMailbox_95 rfl (Nat.le_of_ble_eq_true rfl) (c_Model_behindRoute hT hW hl l1 (by omega)) (fun v h1 z => ?_)
            obtain ⟨⟨sf, rfl, f1, f2⟩, rfl⟩ := z
            have fin : ∀ gd : Int32, ev_E G m_Model_takeMailbox 144 [(0, .ref M), (1, .int (nI a)), (2, .int (nI b)), (3, .int un), (4, .int g), (5, .int (nI op)), (6, .int (nI sf)), (7, .int (nI cl)), (8, .int 1), (9, .int (nI cl))] [.int gd] (mo_ov cI cZ h0 M I R) (cn (tmP cI cZ h0 M I R P ml gs g a b (iv (gA W) a b))) := by
              intro gd
              refine ev_istore d_Model_takeMailbox_144 (by decide) ?_
              refine ev_as [(0, .ref M), (1, .int (nI a)), (2, .int (nI b)), (3, .int un), (4, .int g), (5, .int (nI op)), (6, .int (nI sf)), (7, .int (nI cl)), (8, .int gd)] ⟨rfl, rfl, rfl, rfl, rfl, rfl, rfl, rfl, rfl, trivial⟩ ?_
              exact a146 op sf cl gd o1 o2 (by omega) f2 (by omega) (fun _ => by omega)
            refine ev_istore d_Model_takeMailbox_98 (by decide) ?_
            refine ev_iload d_Model_takeMailbox_100 rfl ?_
            refine ev_istore d_Model_takeMailbox_102 (by decide) ?_
            refine ev_aload_n d_Model_takeMailbox_104 rfl rfl ?_
            refine ev_iload d_Model_takeMailbox_105 rfl ?_
            refine ev_iconst (v := 1) d_Model_takeMailbox_107 (by decide) ?_
            refine ev_iadd d_Model_takeMailbox_108 ?_
            rw [nI_1]
            refine ev_iload_n d_Model_takeMailbox_109 rfl rfl ?_
            refine mo_Vv [.int (nI (cl + 1)), .int (nI b)] [] ca_Model_takeMailbox_197 d_Model_takeMailbox_110 rfl (Nat.le_of_ble_eq_true rfl) (c_Model_next hT hW hl hbW (by omega)) ?_
            refine ev_iload_n d_Model_takeMailbox_113 rfl rfl ?_
            refine ev_icmp_ne (tgt := 143) d_Model_takeMailbox_114 (by decide) (fun c_114 => ?_) (fun c_114 => ?_)
            · refine ev_iconst (v := 0) d_Model_takeMailbox_143 (by decide) ?_
              exact fin _
            · refine ev_aload_n d_Model_takeMailbox_117 rfl rfl ?_
              refine ev_iload_n d_Model_takeMailbox_118 rfl rfl ?_
              refine ev_iload d_Model_takeMailbox_119 rfl ?_
              refine mo_Vv [.int (nI a), .int (nI op)] [] ca_Model_takeMailbox_197 d_Model_takeMailbox_121 rfl (Nat.le_of_ble_eq_true rfl) (c_Model_next hT hW hl (by omega) (by omega)) ?_
              refine ev_iload d_Model_takeMailbox_124 rfl ?_
              refine ev_icmp_eq (tgt := 139) d_Model_takeMailbox_126 (by decide) (fun c_126 => ?_) (fun c_126 => ?_)
              · refine ev_iconst (v := 1) d_Model_takeMailbox_139 (by decide) ?_
                refine ev_goto (tgt := 144) d_Model_takeMailbox_140 (by decide) ?_
                exact fin _
              · refine ev_aload_n d_Model_takeMailbox_129 rfl rfl ?_
                refine ev_iload_n d_Model_takeMailbox_130 rfl rfl ?_
                refine ev_iload d_Model_takeMailbox_131 rfl ?_
                refine mo_Vr [.int (nI a), .int (nI op)] [] ca_Model_takeMailbox_233 d_Model_takeMailbox_133 rfl (Nat.le_of_ble_eq_true rfl) (c_Model_isName hT hW hl o1 (by omega)) (fun v h1 z => ?_)
                obtain ⟨⟨z, rfl⟩, rfl⟩ := z
                refine ev_if_eq (tgt := 143) d_Model_takeMailbox_136 (by decide) (fun c_136 => ?_) (fun c_136 => ?_)
                · refine ev_iconst (v := 0) d_Model_takeMailbox_143 (by decide) ?_
                  exact fin _
                · refine ev_iconst (v := 1) d_Model_takeMailbox_139 (by decide) ?_
                  refine ev_goto (tgt := 144) d_Model_takeMailbox_140 (by decide) ?_
                  exact fin _
          have loop : ∀ (n k : Nat), k + n = c → op ≤ k → ev_E G m_Model_takeMailbox 71 [(0, .ref M), (1, .int (nI a)), (2, .int (nI b)), (3, .int un), (4, .int g), (5, .int (nI op)), (6, .int (nI a)), (7, .int (nI b)), (8, .int 1), (9, .int (nI k))] [] (mo_ov cI cZ h0 M I R) (cn (tmP cI cZ h0 M I R P ml gs g a b (iv (gA W) a b))) := by
            intro n
            induction n with
            | zero =>
              intro k hk hok
              have hkc : k = c := by omega
              subst hkc
              refine ev_aload_n d_Model_takeMailbox_71 rfl rfl ?_
              refine ev_iload d_Model_takeMailbox_72 rfl ?_
              refine ev_bipush (v := 62) d_Model_takeMailbox_74 (by decide) ?_
              refine mo_Vv [.int (nI k), .int 62] [] ca_Model_takeMailbox_200 d_Model_takeMailbox_76 rfl (Nat.le_of_ble_eq_true rfl) (c_Model_is hT hW hl c3 62) ?_
              rw [c4]
              refine ev_if_ne (tgt := 88) d_Model_takeMailbox_79 (by decide) (fun _ => ?_) (fun z => absurd (show (1 : Int32) = 0 from z) (by decide))
              exact a88 k (by omega) c2
            | succ n ih =>
              intro k hk hok
              have qk : W[k]? = some W[k] := List.getElem?_eq_getElem (by omega)
              generalize W[k] = wk at qk
              refine ev_aload_n d_Model_takeMailbox_71 rfl rfl ?_
              refine ev_iload d_Model_takeMailbox_72 rfl ?_
              refine ev_bipush (v := 62) d_Model_takeMailbox_74 (by decide) ?_
              refine mo_Vv [.int (nI k), .int 62] [] ca_Model_takeMailbox_200 d_Model_takeMailbox_76 rfl (Nat.le_of_ble_eq_true rfl) (c_Model_is hT hW hl qk 62) ?_
              cases hw : wIs wk 62 with
              | true =>
                refine ev_if_ne (tgt := 88) d_Model_takeMailbox_79 (by decide) (fun _ => ?_) (fun z => absurd (show (1 : Int32) = 0 from z) (by decide))
                have hne : k ≠ op := fun z => by
                  subst z
                  rw [qw] at qk
                  cases qk
                  have h1 := (of_decide_eq_true hw).2
                  have h2 := (of_decide_eq_true w60).2
                  rw [h1] at h2
                  exact absurd h2 (by decide)
                exact a88 k (by omega) (by omega)
              | false =>
                refine ev_if_ne (tgt := 88) d_Model_takeMailbox_79 (by decide) (fun z => absurd rfl z) (fun _ => ?_)
                refine ev_iinc d_Model_takeMailbox_82 rfl (by decide) ?_
                refine ev_goto (tgt := 71) d_Model_takeMailbox_85 (by decide) ?_
                rw [show nI k + Int32.ofInt 1 = nI (k + 1) from nI_1 k]
                exact ih (k + 1) (by omega) (by omega)
          refine ev_iload d_Model_takeMailbox_67 rfl ?_
          refine ev_istore d_Model_takeMailbox_69 (by decide) ?_
          exact loop (c - op) op (by omega) (Nat.le_refl _)
    have loop : ∀ (n k : Nat), b ≤ k + n → a ≤ k → k ≤ b → ev_E G m_Model_takeMailbox 14 [(0, .ref M), (1, .int (nI a)), (2, .int (nI b)), (3, .int un), (4, .int g), (5, .int (nI k))] [] (mo_ov cI cZ h0 M I R) (cn (tmP cI cZ h0 M I R P ml gs g a b (iv (gA W) a b))) := by
      intro n
      induction n with
      | zero =>
        intro k hk hak hkb
        refine ev_iload d_Model_takeMailbox_14 rfl ?_
        refine ev_iload_n d_Model_takeMailbox_16 rfl rfl ?_
        refine ev_icmp_ge (tgt := 37) d_Model_takeMailbox_17 (by decide) (fun _ => ?_) (fun z => absurd (nI_le (by omega) (by omega)) z)
        exact a37 k hak hkb (fun z => by omega)
      | succ n ih =>
        intro k hk hak hkb
        refine ev_iload d_Model_takeMailbox_14 rfl ?_
        refine ev_iload_n d_Model_takeMailbox_16 rfl rfl ?_
        refine ev_icmp_ge (tgt := 37) d_Model_takeMailbox_17 (by decide) (fun c_17 => ?_) (fun c_17 => ?_)
        · exact a37 k hak hkb (fun z => by have := (nI_leI (by omega) (by omega)).mp c_17; omega)
        · have hkb2 := lt_of_nge (by omega) c_17
          have qk : W[k]? = some W[k] := List.getElem?_eq_getElem (by omega)
          generalize W[k] = wk at qk
          refine ev_aload_n d_Model_takeMailbox_20 rfl rfl ?_
          refine ev_iload d_Model_takeMailbox_21 rfl ?_
          refine ev_bipush (v := 60) d_Model_takeMailbox_23 (by decide) ?_
          refine mo_Vv [.int (nI k), .int 60] [] ca_Model_takeMailbox_200 d_Model_takeMailbox_25 rfl (Nat.le_of_ble_eq_true rfl) (c_Model_is hT hW hl qk 60) ?_
          cases hw : wIs wk 60 with
          | true =>
            refine ev_if_ne (tgt := 37) d_Model_takeMailbox_28 (by decide) (fun _ => ?_) (fun z => absurd (show (1 : Int32) = 0 from z) (by decide))
            exact a37 k hak hkb (fun _ => ⟨wk, qk, hw⟩)
          | false =>
            refine ev_if_ne (tgt := 37) d_Model_takeMailbox_28 (by decide) (fun z => absurd rfl z) (fun _ => ?_)
            refine ev_iinc d_Model_takeMailbox_31 rfl (by decide) ?_
            refine ev_goto (tgt := 14) d_Model_takeMailbox_34 (by decide) ?_
            rw [show nI k + Int32.ofInt 1 = nI (k + 1) from nI_1 k]
            exact ih (k + 1) (by omega) (by omega) (by omega)
    refine ev_iload_n d_Model_takeMailbox_11 rfl rfl ?_
    refine ev_istore d_Model_takeMailbox_12 (by decide) ?_
    exact loop (b - a) a (by omega) (Nat.le_refl _) hab
end ADR3
