/-! the reference's small functions -/
def sp_blank (c : Int32) : Int32 := if c = 32 ∨ c = 9 then 1 else 0
def sp_small (c : Int32) : Int32 := if ¬ c < 65 ∧ ¬ 90 < c then c + 32 else c
def sp_digit (c : Int32) : Int32 := if ¬ c < 48 ∧ ¬ 57 < c then 1 else 0
def sp_nothing (c : Int32) : Int32 := if c ≤ 32 ∨ c = 127 then 1 else 0
def sp_area (w : Int32) : Int32 := if 4 ≤ w then (if w = 4 then 1 else 2) else 0
section SMALL
variable {G : gl_G} {h : hp_T} {cI cZ : ClassId} {h0 : hp_T} {M : Nat} {I : Nat → Int32} {R : Nat → Nat → Int32}
theorem c_Model_isBlank (c : Int32) : ct_E G m_Model_isBlank [.int c] h (cv (.int (sp_blank c)) h) := by
  refine ct_of (ws' := tb_all) rfl rfl (Nat.le_of_ble_eq_true rfl) ?_
  refine ev_iload_n d_Model_isBlank_0 rfl rfl ?_
  refine ev_bipush (v := 32) d_Model_isBlank_1 (by decide) ?_
  refine ev_icmp_eq (tgt := 12) d_Model_isBlank_3 (by decide) (fun c_3 => ?_) (fun c_3 => ?_)
  · refine ev_iconst (v := 1) d_Model_isBlank_12 (by decide) ?_
    refine ev_goto (tgt := 17) d_Model_isBlank_13 (by decide) ?_
    refine ev_zret d_Model_isBlank_17 rfl rfl ?_
    rw [sp_blank, if_pos (Or.inl c_3)]
    exact ⟨rfl, rfl⟩
  · refine ev_iload_n d_Model_isBlank_6 rfl rfl ?_
    refine ev_bipush (v := 9) d_Model_isBlank_7 (by decide) ?_
    refine ev_icmp_ne (tgt := 16) d_Model_isBlank_9 (by decide) (fun c_9 => ?_) (fun c_9 => ?_)
    · refine ev_iconst (v := 0) d_Model_isBlank_16 (by decide) ?_
      refine ev_zret d_Model_isBlank_17 rfl rfl ?_
      rw [sp_blank, if_neg (fun z => z.elim c_3 c_9)]
      exact ⟨rfl, rfl⟩
    · refine ev_iconst (v := 1) d_Model_isBlank_12 (by decide) ?_
      refine ev_goto (tgt := 17) d_Model_isBlank_13 (by decide) ?_
      refine ev_zret d_Model_isBlank_17 rfl rfl ?_
      rw [sp_blank, if_pos (Or.inr c_9)]
      exact ⟨rfl, rfl⟩
theorem c_Model_small (c : Int32) : ct_E G m_Model_small [.int c] h (cv (.int (sp_small c)) h) := by
  refine ct_of (ws' := tb_all) rfl rfl (Nat.le_of_ble_eq_true rfl) ?_
  refine ev_iload_n d_Model_small_0 rfl rfl ?_
  refine ev_bipush (v := 65) d_Model_small_1 (by decide) ?_
  refine ev_icmp_lt (tgt := 19) d_Model_small_3 (by decide) (fun c_3 => ?_) (fun c_3 => ?_)
  · refine ev_iload_n d_Model_small_19 rfl rfl ?_
    refine ev_iret d_Model_small_20 rfl ?_
    rw [sp_small, if_neg (fun z => z.1 c_3)]
    exact ⟨rfl, rfl⟩
  · refine ev_iload_n d_Model_small_6 rfl rfl ?_
    refine ev_bipush (v := 90) d_Model_small_7 (by decide) ?_
    refine ev_icmp_gt (tgt := 19) d_Model_small_9 (by decide) (fun c_9 => ?_) (fun c_9 => ?_)
    · refine ev_iload_n d_Model_small_19 rfl rfl ?_
      refine ev_iret d_Model_small_20 rfl ?_
      rw [sp_small, if_neg (fun z => z.2 c_9)]
      exact ⟨rfl, rfl⟩
    · refine ev_iload_n d_Model_small_12 rfl rfl ?_
      refine ev_bipush (v := 32) d_Model_small_13 (by decide) ?_
      refine ev_iadd d_Model_small_15 ?_
      refine ev_goto (tgt := 20) d_Model_small_16 (by decide) ?_
      refine ev_iret d_Model_small_20 rfl ?_
      rw [sp_small, if_pos ⟨c_3, c_9⟩]
      exact ⟨rfl, rfl⟩
theorem c_Model_isDigit (c : Int32) : ct_E G m_Model_isDigit [.int c] h (cv (.int (sp_digit c)) h) := by
  refine ct_of (ws' := tb_all) rfl rfl (Nat.le_of_ble_eq_true rfl) ?_
  refine ev_iload_n d_Model_isDigit_0 rfl rfl ?_
  refine ev_bipush (v := 48) d_Model_isDigit_1 (by decide) ?_
  refine ev_icmp_lt (tgt := 16) d_Model_isDigit_3 (by decide) (fun c_3 => ?_) (fun c_3 => ?_)
  · refine ev_iconst (v := 0) d_Model_isDigit_16 (by decide) ?_
    refine ev_zret d_Model_isDigit_17 rfl rfl ?_
    rw [sp_digit, if_neg (fun z => z.1 c_3)]
    exact ⟨rfl, rfl⟩
  · refine ev_iload_n d_Model_isDigit_6 rfl rfl ?_
    refine ev_bipush (v := 57) d_Model_isDigit_7 (by decide) ?_
    refine ev_icmp_gt (tgt := 16) d_Model_isDigit_9 (by decide) (fun c_9 => ?_) (fun c_9 => ?_)
    · refine ev_iconst (v := 0) d_Model_isDigit_16 (by decide) ?_
      refine ev_zret d_Model_isDigit_17 rfl rfl ?_
      rw [sp_digit, if_neg (fun z => z.2 c_9)]
      exact ⟨rfl, rfl⟩
    · refine ev_iconst (v := 1) d_Model_isDigit_12 (by decide) ?_
      refine ev_goto (tgt := 17) d_Model_isDigit_13 (by decide) ?_
      refine ev_zret d_Model_isDigit_17 rfl rfl ?_
      rw [sp_digit, if_pos ⟨c_3, c_9⟩]
      exact ⟨rfl, rfl⟩
theorem c_Model_isNothing (c : Int32) : ct_E G m_Model_isNothing [.int c] h (cv (.int (sp_nothing c)) h) := by
  refine ct_of (ws' := tb_all) rfl rfl (Nat.le_of_ble_eq_true rfl) ?_
  refine ev_iload_n d_Model_isNothing_0 rfl rfl ?_
  refine ev_bipush (v := 32) d_Model_isNothing_1 (by decide) ?_
  refine ev_icmp_le (tgt := 12) d_Model_isNothing_3 (by decide) (fun c_3 => ?_) (fun c_3 => ?_)
  · refine ev_iconst (v := 1) d_Model_isNothing_12 (by decide) ?_
    refine ev_goto (tgt := 17) d_Model_isNothing_13 (by decide) ?_
    refine ev_zret d_Model_isNothing_17 rfl rfl ?_
    rw [sp_nothing, if_pos (Or.inl c_3)]
    exact ⟨rfl, rfl⟩
  · refine ev_iload_n d_Model_isNothing_6 rfl rfl ?_
    refine ev_bipush (v := 127) d_Model_isNothing_7 (by decide) ?_
    refine ev_icmp_ne (tgt := 16) d_Model_isNothing_9 (by decide) (fun c_9 => ?_) (fun c_9 => ?_)
    · refine ev_iconst (v := 0) d_Model_isNothing_16 (by decide) ?_
      refine ev_zret d_Model_isNothing_17 rfl rfl ?_
      rw [sp_nothing, if_neg (fun z => z.elim c_3 c_9)]
      exact ⟨rfl, rfl⟩
    · refine ev_iconst (v := 1) d_Model_isNothing_12 (by decide) ?_
      refine ev_goto (tgt := 17) d_Model_isNothing_13 (by decide) ?_
      refine ev_zret d_Model_isNothing_17 rfl rfl ?_
      rw [sp_nothing, if_pos (Or.inr c_9)]
      exact ⟨rfl, rfl⟩
theorem c_Model_areaOf (w : Int32) : ct_E G m_Model_areaOf [.int w] h (cv (.int (sp_area w)) h) := by
  refine ct_of (ws' := tb_all) rfl rfl (Nat.le_of_ble_eq_true rfl) ?_
  refine ev_iload_n d_Model_areaOf_0 rfl rfl ?_
  refine ev_iconst (v := 4) d_Model_areaOf_1 (by decide) ?_
  refine ev_icmp_ge (tgt := 9) d_Model_areaOf_2 (by decide) (fun c_2 => ?_) (fun c_2 => ?_)
  · refine ev_iload_n d_Model_areaOf_9 rfl rfl ?_
    refine ev_iconst (v := 4) d_Model_areaOf_10 (by decide) ?_
    refine ev_icmp_ne (tgt := 18) d_Model_areaOf_11 (by decide) (fun c_11 => ?_) (fun c_11 => ?_)
    · refine ev_iconst (v := 2) d_Model_areaOf_18 (by decide) ?_
      refine ev_iret d_Model_areaOf_19 rfl ?_
      rw [sp_area, if_pos c_2, if_neg c_11]
      exact ⟨rfl, rfl⟩
    · refine ev_iconst (v := 1) d_Model_areaOf_14 (by decide) ?_
      refine ev_goto (tgt := 19) d_Model_areaOf_15 (by decide) ?_
      refine ev_iret d_Model_areaOf_19 rfl ?_
      rw [sp_area, if_pos c_2, if_pos c_11]
      exact ⟨rfl, rfl⟩
  · refine ev_iconst (v := 0) d_Model_areaOf_5 (by decide) ?_
    refine ev_goto (tgt := 19) d_Model_areaOf_6 (by decide) ?_
    refine ev_iret d_Model_areaOf_19 rfl ?_
    rw [sp_area, if_neg c_2]
    exact ⟨rfl, rfl⟩
def sp_isField (fields f : Int32) : Int32 := if ¬ f < 0 ∧ ¬ fields ≤ f then 1 else 0
theorem c_Model_isField (f : Int32) : ct_E G m_Model_isField [.ref M, .int f] (mo_ov cI cZ h0 M I R) (cv (.int (sp_isField (I 4) f)) (mo_ov cI cZ h0 M I R)) := by
  refine ct_of (ws' := tb_all) rfl rfl (Nat.le_of_ble_eq_true rfl) ?_
  refine ev_iload_n d_Model_isField_0 rfl rfl ?_
  refine ev_if_lt (tgt := 16) d_Model_isField_1 (by decide) (fun c_1 => ?_) (fun c_1 => ?_)
  · refine ev_iconst (v := 0) d_Model_isField_16 (by decide) ?_
    refine ev_zret d_Model_isField_17 rfl rfl ?_
    rw [sp_isField, if_neg (fun z => z.1 c_1)]
    exact ⟨rfl, rfl⟩
  · refine ev_iload_n d_Model_isField_4 rfl rfl ?_
    refine ev_aload_n d_Model_isField_5 rfl rfl ?_
    refine mo_get (fa_Model_116 rfl rfl) d_Model_isField_6 rfl ?_
    refine ev_icmp_ge (tgt := 16) d_Model_isField_9 (by decide) (fun c_9 => ?_) (fun c_9 => ?_)
    · refine ev_iconst (v := 0) d_Model_isField_16 (by decide) ?_
      refine ev_zret d_Model_isField_17 rfl rfl ?_
      rw [sp_isField, if_neg (fun z => z.2 c_9)]
      exact ⟨rfl, rfl⟩
    · refine ev_iconst (v := 1) d_Model_isField_12 (by decide) ?_
      refine ev_goto (tgt := 17) d_Model_isField_13 (by decide) ?_
      refine ev_zret d_Model_isField_17 rfl rfl ?_
      rw [sp_isField, if_pos ⟨c_1, c_9⟩]
      exact ⟨rfl, rfl⟩
theorem c_Model_bad : ct_E G m_Model_bad [.ref M] (mo_ov cI cZ h0 M I R) (cr (fun v h' => v = .int (I 5) ∧ h' = mo_ov cI cZ h0 M (upd I 0 0) R)) := by
  refine ct_of (ws' := tb_all) rfl rfl (Nat.le_of_ble_eq_true rfl) ?_
  refine ev_aload_n d_Model_bad_0 rfl rfl ?_
  refine ev_iconst (v := 0) d_Model_bad_1 (by decide) ?_
  refine mo_put (fp_Model_99 rfl rfl) d_Model_bad_2 (Nat.le_of_ble_eq_true rfl) rfl rfl rfl ?_
  refine ev_aload_n d_Model_bad_5 rfl rfl ?_
  refine mo_get (fa_Model_122 rfl rfl) d_Model_bad_6 rfl ?_
  refine ev_iret d_Model_bad_9 rfl ?_
  exact ⟨_, rfl, rfl, rfl⟩
theorem c_Model_thrown : ct_E G m_Model_thrown [.ref M] (mo_ov cI cZ h0 M I R) (cv (.int (I 0)) (mo_ov cI cZ h0 M I R)) := by
  refine ct_of (ws' := tb_all) rfl rfl (Nat.le_of_ble_eq_true rfl) ?_
  refine ev_aload_n d_Model_thrown_0 rfl rfl ?_
  refine mo_get (fa_Model_99 rfl rfl) d_Model_thrown_1 rfl ?_
  refine ev_iret d_Model_thrown_4 rfl ?_
  exact ⟨rfl, rfl⟩
end SMALL
