section HEADP
variable {G : gl_G} {μ : mt_M} {cI : ClassId} {pc pc2 : Nat} {lv : List (Nat × Value)} {st st2 : List Value} {h : hp_T}
theorem pp_iadd {x y : Int32} (hd : decode (mt_b μ) pc = .ok (.iadd, 1)) (k : pp_E G μ h (pc + 1) lv (.int (x + y) :: st) pc2 st2) : pp_E G μ h pc lv (.int y :: .int x :: st) pc2 st2 :=
  pp_pure (fun _ _ _ _ _ _ _ _ _ C _ _ _ _ _ ls _ _ hl k => lv_iadd C.1 C.2.1 hd (k ls hl)) k
theorem pp_imul {x y : Int32} (hd : decode (mt_b μ) pc = .ok (.imul, 1)) (k : pp_E G μ h (pc + 1) lv (.int (x * y) :: st) pc2 st2) : pp_E G μ h pc lv (.int y :: .int x :: st) pc2 st2 :=
  pp_pure (fun _ _ _ _ _ _ _ _ _ C _ _ _ _ _ ls _ _ hl k => lv_imul C.1 C.2.1 hd (k ls hl)) k
theorem pp_idiv {x y : Int32} (hd : decode (mt_b μ) pc = .ok (.idiv, 1)) (hy : y ≠ 0) (k : pp_E G μ h (pc + 1) lv (.int (x / y) :: st) pc2 st2) : pp_E G μ h pc lv (.int y :: .int x :: st) pc2 st2 :=
  pp_pure (fun _ _ _ _ _ _ _ _ _ C _ _ _ _ _ ls _ _ hl k => lv_idiv C.1 C.2.1 hd hy (k ls hl)) k
theorem ct_of_cp {av : List Value} {v : Value} (k : cp_D G μ av h v) : ct_E G μ av h (cv v h) := by
  refine ⟨_, _, ⟨rfl, rfl⟩, Nat.le_refl _, Nat.le_refl _, fun hG => ?_⟩
  have M := k hG
  rw [Nat.sub_self, Nat.sub_self]
  intro p e ha hc hk s m args below hf happ hP hK
  obtain ⟨n, o, h1, h2, h3, ⟨q1, q2⟩, L, hF, hL⟩ := M p e ha hc hk s m args below hf happ hP hK
  exact ⟨n, o, h1, h2, h3, ⟨q1, by rw [q2]; exact hP.2.1, by rw [q2]; exact Nat.le_refl _, fun q _ _ => by rw [q2]⟩, L, hF, fun q hq => (hL q hq).elim⟩
theorem p_Row_size {a : Nat} {r : Value} {n : Int32} (hA : h.2.2 a = some (.inr (1, [r, .int n]))) : cp_D G m_Row_size [.ref a] h (.int n) := by
  refine cp_of (ws' := tb_all) rfl rfl (Nat.le_of_ble_eq_true rfl) d_Row_size_4 rfl ?_
  refine pp_aload_n d_Row_size_0 rfl rfl ?_
  refine pp_get (fa_Row_15 rfl rfl) d_Row_size_1 hA rfl ?_
  exact pp_end
theorem p_Texts_count {t rb cb kb rx cx kx : Nat} {bs bd : List Int32} (hr : tx_at cI h t rb cb kb bs rx cx kx bd) : cp_D G m_Texts_count [.ref t] h (.int (nI bd.length - 1)) := by
  obtain ⟨hA, hb, hx⟩ := hr
  refine cp_of (ws' := tb_all) rfl rfl (Nat.le_of_ble_eq_true rfl) d_Texts_count_9 rfl ?_
  refine pp_aload_n d_Texts_count_0 rfl rfl ?_
  refine pp_get (fa_Texts_18 rfl rfl) d_Texts_count_1 hA rfl ?_
  refine pp_Vv (ci := 1) [] [] ca_Texts_count_25 d_Texts_count_4 rfl hx.1 rfl (Nat.le_of_ble_eq_true rfl) (p_Row_size hx.1) ?_
  refine pp_iconst (v := 1) d_Texts_count_7 (by decide) ?_
  refine pp_isub d_Texts_count_8 ?_
  exact pp_end
theorem p_Head_count {a t rb cb kb rx cx kx : Nat} {bs bd : List Int32} {v1 v2 : Value} (hA : h.2.2 a = some (.inr (2, [.ref t, v1, v2]))) (hr : tx_at cI h t rb cb kb bs rx cx kx bd) : cp_D G m_Head_count [.ref a] h (.int ((nI bd.length - 1) / 2)) := by
  refine cp_of (ws' := tb_all) rfl rfl (Nat.le_of_ble_eq_true rfl) d_Head_count_9 rfl ?_
  refine pp_aload_n d_Head_count_0 rfl rfl ?_
  refine pp_get (fa_Head_12 rfl rfl) d_Head_count_1 hA rfl ?_
  refine pp_Vv (ci := 3) [] [] ca_Head_count_26 d_Head_count_4 rfl hr.1 rfl (Nat.le_of_ble_eq_true rfl) (p_Texts_count hr) ?_
  refine pp_iconst (v := 2) d_Head_count_7 (by decide) ?_
  refine pp_idiv d_Head_count_8 (by decide) ?_
  exact pp_end
/-- which text a field's name or value is, of n fields -/
def hdT (n f w : Int32) : Int32 := if f < 0 then -1 else if n ≤ f then -1 else if w = 0 ∨ w = 1 then 2 * f + w else -1
theorem p_Head_textOf {a t rb cb kb rx cx kx : Nat} {bs bd : List Int32} {v1 v2 : Value} (hA : h.2.2 a = some (.inr (2, [.ref t, v1, v2]))) (hr : tx_at cI h t rb cb kb bs rx cx kx bd) (f w : Int32) : cp_D G m_Head_textOf [.ref a, .int f, .int w] h (.int (hdT ((nI bd.length - 1) / 2) f w)) := by
  refine cp_of (ws' := tb_all) rfl rfl (Nat.le_of_ble_eq_true rfl) d_Head_textOf_40 rfl ?_
  have no : hdT ((nI bd.length - 1) / 2) f w = -1 → pp_E G m_Head_textOf h 25 (lv_args 0 [.ref a, .int f, .int w]) [] 40 [.int (hdT ((nI bd.length - 1) / 2) f w)] := fun e => by
    rw [e]
    refine pp_iconst (v := 0) d_Head_textOf_25 (by decide) ?_
    refine pp_istore_n d_Head_textOf_26 rfl (by decide) ?_
    refine pp_iload_n (x := 0) d_Head_textOf_27 rfl rfl ?_
    refine pp_if_eq (tgt := 39) d_Head_textOf_28 (by decide) (fun _ => ?_) (fun z => absurd rfl z)
    refine pp_iconst (v := -1) d_Head_textOf_39 (by decide) ?_
    exact pp_end
  have ye : hdT ((nI bd.length - 1) / 2) f w = 2 * f + w → pp_E G m_Head_textOf h 21 (lv_args 0 [.ref a, .int f, .int w]) [] 40 [.int (hdT ((nI bd.length - 1) / 2) f w)] := fun e => by
    rw [e]
    refine pp_iconst (v := 1) d_Head_textOf_21 (by decide) ?_
    refine pp_goto (tgt := 26) d_Head_textOf_22 (by decide) ?_
    refine pp_istore_n d_Head_textOf_26 rfl (by decide) ?_
    refine pp_iload_n (x := 1) d_Head_textOf_27 rfl rfl ?_
    refine pp_if_eq (tgt := 39) d_Head_textOf_28 (by decide) (fun z => absurd z (by decide)) (fun _ => ?_)
    refine pp_iconst (v := 2) d_Head_textOf_31 (by decide) ?_
    refine pp_iload_n (x := f) d_Head_textOf_32 rfl rfl ?_
    refine pp_imul d_Head_textOf_33 ?_
    refine pp_iload_n (x := w) d_Head_textOf_34 rfl rfl ?_
    refine pp_iadd d_Head_textOf_35 ?_
    refine pp_goto (tgt := 40) d_Head_textOf_36 (by decide) ?_
    exact pp_end
  refine pp_iload_n (x := f) d_Head_textOf_0 rfl rfl ?_
  refine pp_if_lt (tgt := 25) d_Head_textOf_1 (by decide) (fun c1 => no (if_pos c1)) (fun c1 => ?_)
  refine pp_iload_n (x := f) d_Head_textOf_4 rfl rfl ?_
  refine pp_aload_n d_Head_textOf_5 rfl rfl ?_
  refine pp_Vv (ci := 2) [] [.int f] ca_Head_textOf_30 d_Head_textOf_6 rfl hA rfl (Nat.le_of_ble_eq_true rfl) (p_Head_count hA hr) ?_
  refine pp_icmp_ge (tgt := 25) d_Head_textOf_9 (by decide) (fun c2 => no (by rw [hdT, if_neg c1, if_pos c2])) (fun c2 => ?_)
  refine pp_iload_n (x := w) d_Head_textOf_12 rfl rfl ?_
  refine pp_if_eq (tgt := 21) d_Head_textOf_13 (by decide) (fun c3 => ye (by rw [hdT, if_neg c1, if_neg c2, if_pos (Or.inl c3)])) (fun c3 => ?_)
  refine pp_iload_n (x := w) d_Head_textOf_16 rfl rfl ?_
  refine pp_iconst (v := 1) d_Head_textOf_17 (by decide) ?_
  refine pp_icmp_ne (tgt := 25) d_Head_textOf_18 (by decide) (fun c4 => no (by rw [hdT, if_neg c1, if_neg c2, if_neg (fun z => z.elim c3 c4)])) (fun c4 => ye (by rw [hdT, if_neg c1, if_neg c2, if_pos (Or.inr c4)]))
end HEADP
