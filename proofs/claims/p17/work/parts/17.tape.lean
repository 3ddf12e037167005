/-! the reference's tape: feed, end -/
/-- byte k of x, the highest first -/
def by8 (x k : Int32) : Int32 := (x.toUInt32 >>> ((24 - 8 * k).toUInt32 &&& Int32.toUInt32 31)).toInt32 &&& 255
def rdy (f : Nat → Int32) (a : Nat) (x : Int32) (k : Nat) : Nat → Int32 := fun j => if a ≤ j ∧ j < a + k then by8 x (nI (j - a)) else f j
theorem rdy_0 (f : Nat → Int32) (a : Nat) (x : Int32) : rdy f a x 0 = f := by
  funext j
  exact if_neg (by omega)
theorem rdy_s (f : Nat → Int32) (a : Nat) (x : Int32) (k : Nat) : upd (rdy f a x k) (a + k) (by8 x (nI k)) = rdy f a x (k + 1) := by
  funext j
  unfold upd rdy
  by_cases hj : j = a + k
  · subst hj
    rw [if_pos rfl, if_pos (by omega), Nat.add_sub_cancel_left]
  · rw [if_neg hj]
    by_cases h : a ≤ j ∧ j < a + k
    · rw [if_pos h, if_pos (by omega)]
    · rw [if_neg h, if_neg (by omega)]
section TAPE
variable {G : gl_G} {cI cZ : ClassId} {h0 : hp_T} {M : Nat} {I : Nat → Int32}
theorem l_Model_readyWord (hT : (gl_t G)[0]? = some (cI, .int)) (R : Nat → Nat → Int32) {a : Nat} (ha : a ≤ 16) (x : Int32) : ∀ (n k : Nat), k + n = 4 →
    ev_E G m_Model_readyWord 2 [(0, .ref M), (1, .int (nI a)), (2, .int x), (3, .int (nI k))] [] (mo_ov cI cZ h0 M I (va_up R 1 (rdy (R 1) a x k))) (cn (fun h' => h' = mo_ov cI cZ h0 M I (va_up R 1 (rdy (R 1) a x 4)))) := by
  intro n
  induction n with
  | zero =>
    intro k hk
    have hk4 : k = 4 := by omega
    subst hk4
    refine ev_iload_n d_Model_readyWord_2 rfl rfl ?_
    refine ev_iconst (v := 4) d_Model_readyWord_3 (by decide) ?_
    refine ev_icmp_ge (tgt := 34) d_Model_readyWord_4 (by decide) (fun c_4 => ?_) (fun c_4 => ?_)
    · refine ev_vret d_Model_readyWord_34 rfl ?_
      exact ⟨rfl, rfl⟩
    · exact absurd (by decide) c_4
  | succ n ih =>
    intro k hk
    refine ev_iload_n d_Model_readyWord_2 rfl rfl ?_
    refine ev_iconst (v := 4) d_Model_readyWord_3 (by decide) ?_
    refine ev_icmp_ge (tgt := 34) d_Model_readyWord_4 (by decide) (fun c_4 => ?_) (fun c_4 => ?_)
    · exact absurd c_4 (nI_ge (a := k) (b := 4) (by omega) (by omega))
    · have hin : vp_in (nI a + nI k) (mo_len 1) := by rw [nI_add]; exact vp_in_nI (show a + k < 20 by omega) (by decide)
      refine ev_aload_n d_Model_readyWord_7 rfl rfl ?_
      refine mo_get (fa_Model_7 rfl rfl) d_Model_readyWord_8 rfl ?_
      refine ev_iload_n d_Model_readyWord_11 rfl rfl ?_
      refine ev_iload_n d_Model_readyWord_12 rfl rfl ?_
      refine ev_iadd d_Model_readyWord_13 ?_
      refine ev_iload_n d_Model_readyWord_14 rfl rfl ?_
      refine ev_bipush (v := 24) d_Model_readyWord_15 (by decide) ?_
      refine ev_bipush (v := 8) d_Model_readyWord_17 (by decide) ?_
      refine ev_iload_n d_Model_readyWord_19 rfl rfl ?_
      refine ev_imul d_Model_readyWord_20 ?_
      refine ev_isub d_Model_readyWord_21 ?_
      refine ev_iushr d_Model_readyWord_22 ?_
      refine ev_sipush (v := 255) d_Model_readyWord_23 (by decide) ?_
      refine ev_iand d_Model_readyWord_26 ?_
      refine mo_ast hT d_Model_readyWord_27 (by decide) hin ?_
      refine ev_iinc d_Model_readyWord_28 rfl (by decide) ?_
      rw [nI_add, nI_clamp (by omega), va_up_self, bx_uu]
      show ev_E G m_Model_readyWord 31 _ _ (mo_ov cI cZ h0 M I (va_up R 1 (upd (rdy (R 1) a x k) (a + k) (by8 x (nI k))))) _
      rw [rdy_s]
      refine ev_goto (tgt := 2) d_Model_readyWord_31 (by decide) ?_
      refine ev_as [(0, .ref M), (1, .int (nI a)), (2, .int x), (3, .int (nI (k + 1)))] ⟨rfl, rfl, rfl, ?_, trivial⟩ (ih (k + 1) (by omega))
      show some (Value.int (nI k + 1)) = _
      rw [nI_succ]
theorem c_Model_readyWord (hT : (gl_t G)[0]? = some (cI, .int)) (R : Nat → Nat → Int32) {a : Nat} (ha : a ≤ 16) (x : Int32) : ct_E G m_Model_readyWord [.ref M, .int (nI a), .int x] (mo_ov cI cZ h0 M I R) (cn (fun h' => h' = mo_ov cI cZ h0 M I (va_up R 1 (rdy (R 1) a x 4)))) := by
  refine ct_of (ws' := tb_all) rfl rfl (Nat.le_of_ble_eq_true rfl) ?_
  refine ev_iconst (v := 0) d_Model_readyWord_0 (by decide) ?_
  refine ev_istore_n d_Model_readyWord_1 rfl (by decide) ?_
  have e : R = va_up R 1 (rdy (R 1) a x 0) := by
    rw [rdy_0]
    funext j
    by_cases hj : j = 1
    · rw [hj, va_up_self]
    · rw [va_up_ne _ _ hj]
  have k := l_Model_readyWord (G := G) (cZ := cZ) (h0 := h0) (M := M) (I := I) hT R ha x 4 0 rfl
  rw [← e] at k
  exact ev_as [(0, .ref M), (1, .int (nI a)), (2, .int x), (3, .int (nI 0))] ⟨rfl, rfl, rfl, rfl, trivial⟩ k
end TAPE
