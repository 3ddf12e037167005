section MODELINIT
variable {G : gl_G} {μ : mt_M} {pc : Nat} {lv : List (Nat × Value)} {Z : Option Value → hp_T → Prop} {iP : Nat} {cI cZ : ClassId}
/-- this.f = new T[len], the cells behind the object as B has them -/
theorem ev_arrB {h0 h : hp_T} {a cp K N f t0 : Nat} {pf : List Value} {B : Nat → va_E} {t : FieldType} {atype : ArrayType} {cA : ClassId} (len : Nat) (hd0 : decode (mt_b μ) pc = .ok (.newarray atype, 2)) (hd1 : decode (mt_b μ) (pc + 2) = .ok (.putfield iP, 3)) (FP : fa_put μ iP cp f t) (hn : ∀ x, narrow t (.ref x) = .ref x) (hfit : ∀ x, fits t (.ref x) = true) (ha : ∀ cA : ClassId, vp_cell cA (len, .inl (fun _ => 0)) = arrV cA len (fun _ => defaultValue (newarray.typeOf atype))) (hw : Cond.arrayClass (newarray.typeOf atype) ∈ mt_w μ) (ht : (gl_t G)[t0]? = some (cA, newarray.typeOf atype)) (hlen : len < 2 ^ 20) (hbytes : len * componentBytes (newarray.typeOf atype) ≤ 536870912) (hB : B K = .inl (cA, len, .inl (fun _ => 0))) (I : ci_I h0 h a cp pf K N B) (hf : f < pf.length)
    (kk : ∀ h2, ci_I h0 h2 a cp (pf.set f (.ref (a + 1 + K))) (K + 1) (N + len) B → ev_E G μ (pc + 2 + 3) lv [] h2 Z) : ev_E G μ pc lv [.int (nI len), .ref a] h Z := by
  refine ev_newa (atype := atype) (t0 := t0) (N := len) (cA := cA) (a0 := (len, .inl (fun _ => 0))) ha hw ht (nI_pos (by omega)) (nI_clamp (by omega)) hbytes hd0 ?_
  obtain ⟨g1, g2, I1⟩ := ci_arr (n := f) (len := len) (e := .inl (cA, len, .inl (fun _ => 0))) I
  refine ev_put FP hd1 g1 hf (hn _) (hfit _) ?_
  rw [g2] at I1 ⊢
  refine kk _ ?_
  obtain ⟨i1, i2, i3, i4, i5, i6⟩ := I1
  refine ⟨i1, i2, i3, i4, fun k hk => ?_, i6⟩
  rw [i5 k hk]
  unfold bj
  by_cases hkK : k < K
  · rw [if_pos hkK]
  · rw [if_neg hkK, show k = K by omega, hB]
/-- the reference's arrays and numbers when it is new -/
def mo_B (cI cZ : ClassId) : Nat → va_E := fun k => .inl (if k = 21 then cZ else cI, mo_len (k + 1), .inl (fun _ => 0))
def mo_I0 : Nat → Int32 := fun k => if k = 37 then -1 else if k = 38 then -1 else 0
set_option maxHeartbeats 4000000 in
set_option maxRecDepth 4000 in
theorem c_Model_init (hT : (gl_t G)[0]? = some (cI, .int)) (hZ : (gl_t G)[1]? = some (cZ, .boolean)) (h : hp_T) (a : Nat) (ha : a + 1 = h.1) (hA : h.2.2 a = some (.inr (9, [.int 0, .null, .null, .int 0, .int 0, .int 0, .null, .null, .null, .null, .null, .int 0, .int 0, .null, .null, .null, .null, .null, .int 0, .null, .null, .null, .null, .null, .int 0, .int 0, .null, .int 0, .null, .null, .null, .null, .null, .null, .null, .null, .null, .int 0, .int 0, .int 0, .int 0, .int 0, .int 0, .int 0, .int 0]))) : ct_E G m_Model_init [.ref a] h (cn fun h' => nb h h' a 27 55494 (bo (.inr (9, mo_obj a mo_I0)) (mo_B cI cZ))) := by
  refine ct_of (ws' := tb_all) rfl rfl (Nat.le_of_ble_eq_true rfl) ?_
  refine ev_aload_n d_Model_init_0 rfl rfl ?_
  refine ev_objInit (List.mem_cons_of_mem _ tw_919) (List.mem_cons_of_mem _ tw_29) (List.mem_cons_of_mem _ tw_30) (by decide) (by decide) d_Model_init_1 ?_
  have I2 : ci_I h h a 9 _ 0 0 (mo_B cI cZ) := ⟨ha, rfl, rfl, hA, fun _ hk => absurd hk (Nat.not_lt_zero _), fun _ _ => rfl⟩
  refine ev_aload_n d_Model_init_4 rfl rfl ?_
  refine ev_bipush (v := 20) d_Model_init_5 (by decide) ?_
  refine ev_arrB (t0 := 0) (pf := [.int 0, .null, .null, .int 0, .int 0, .int 0, .null, .null, .null, .null, .null, .int 0, .int 0, .null, .null, .null, .null, .null, .int 0, .null, .null, .null, .null, .null, .int 0, .int 0, .null, .int 0, .null, .null, .null, .null, .null, .null, .null, .null, .null, .int 0, .int 0, .int 0, .int 0, .int 0, .int 0, .int 0, .int 0]) (K := 0) (N := 0) (f := 1) 20 d_Model_init_7 d_Model_init_9 (fp_Model_7 rfl rfl rfl) (fun _ => rfl) (fun _ => rfl) (fun _ => rfl) (List.mem_cons_of_mem _ tw_44) hT (by decide) (by decide) rfl I2 (Nat.le_of_ble_eq_true rfl) (fun h2 I2 => ?_)
  refine ev_aload_n d_Model_init_12 rfl rfl ?_
  refine ev_sipush (v := 1500) d_Model_init_13 (by decide) ?_
  refine ev_arrB (t0 := 0) (pf := [.int 0, .ref (a + 1), .null, .int 0, .int 0, .int 0, .null, .null, .null, .null, .null, .int 0, .int 0, .null, .null, .null, .null, .null, .int 0, .null, .null, .null, .null, .null, .int 0, .int 0, .null, .int 0, .null, .null, .null, .null, .null, .null, .null, .null, .null, .int 0, .int 0, .int 0, .int 0, .int 0, .int 0, .int 0, .int 0]) (K := 1) (N := 20) (f := 2) 1500 d_Model_init_16 d_Model_init_18 (fp_Model_13 rfl rfl rfl) (fun _ => rfl) (fun _ => rfl) (fun _ => rfl) (List.mem_cons_of_mem _ tw_44) hT (by decide) (by decide) rfl I2 (Nat.le_of_ble_eq_true rfl) (fun h2 I2 => ?_)
  refine ev_aload_n d_Model_init_21 rfl rfl ?_
  refine ev_bipush (v := 40) d_Model_init_22 (by decide) ?_
  refine ev_arrB (t0 := 0) (pf := [.int 0, .ref (a + 1), .ref (a + 2), .int 0, .int 0, .int 0, .null, .null, .null, .null, .null, .int 0, .int 0, .null, .null, .null, .null, .null, .int 0, .null, .null, .null, .null, .null, .int 0, .int 0, .null, .int 0, .null, .null, .null, .null, .null, .null, .null, .null, .null, .int 0, .int 0, .int 0, .int 0, .int 0, .int 0, .int 0, .int 0]) (K := 2) (N := 1520) (f := 6) 40 d_Model_init_24 d_Model_init_26 (fp_Model_16 rfl rfl rfl) (fun _ => rfl) (fun _ => rfl) (fun _ => rfl) (List.mem_cons_of_mem _ tw_44) hT (by decide) (by decide) rfl I2 (Nat.le_of_ble_eq_true rfl) (fun h2 I2 => ?_)
  refine ev_aload_n d_Model_init_29 rfl rfl ?_
  refine ev_bipush (v := 40) d_Model_init_30 (by decide) ?_
  refine ev_arrB (t0 := 0) (pf := [.int 0, .ref (a + 1), .ref (a + 2), .int 0, .int 0, .int 0, .ref (a + 3), .null, .null, .null, .null, .int 0, .int 0, .null, .null, .null, .null, .null, .int 0, .null, .null, .null, .null, .null, .int 0, .int 0, .null, .int 0, .null, .null, .null, .null, .null, .null, .null, .null, .null, .int 0, .int 0, .int 0, .int 0, .int 0, .int 0, .int 0, .int 0]) (K := 3) (N := 1560) (f := 7) 40 d_Model_init_32 d_Model_init_34 (fp_Model_19 rfl rfl rfl) (fun _ => rfl) (fun _ => rfl) (fun _ => rfl) (List.mem_cons_of_mem _ tw_44) hT (by decide) (by decide) rfl I2 (Nat.le_of_ble_eq_true rfl) (fun h2 I2 => ?_)
  refine ev_aload_n d_Model_init_37 rfl rfl ?_
  refine ev_bipush (v := 40) d_Model_init_38 (by decide) ?_
  refine ev_arrB (t0 := 0) (pf := [.int 0, .ref (a + 1), .ref (a + 2), .int 0, .int 0, .int 0, .ref (a + 3), .ref (a + 4), .null, .null, .null, .int 0, .int 0, .null, .null, .null, .null, .null, .int 0, .null, .null, .null, .null, .null, .int 0, .int 0, .null, .int 0, .null, .null, .null, .null, .null, .null, .null, .null, .null, .int 0, .int 0, .int 0, .int 0, .int 0, .int 0, .int 0, .int 0]) (K := 4) (N := 1600) (f := 8) 40 d_Model_init_40 d_Model_init_42 (fp_Model_22 rfl rfl rfl) (fun _ => rfl) (fun _ => rfl) (fun _ => rfl) (List.mem_cons_of_mem _ tw_44) hT (by decide) (by decide) rfl I2 (Nat.le_of_ble_eq_true rfl) (fun h2 I2 => ?_)
  refine ev_aload_n d_Model_init_45 rfl rfl ?_
  refine ev_bipush (v := 40) d_Model_init_46 (by decide) ?_
  refine ev_arrB (t0 := 0) (pf := [.int 0, .ref (a + 1), .ref (a + 2), .int 0, .int 0, .int 0, .ref (a + 3), .ref (a + 4), .ref (a + 5), .null, .null, .int 0, .int 0, .null, .null, .null, .null, .null, .int 0, .null, .null, .null, .null, .null, .int 0, .int 0, .null, .int 0, .null, .null, .null, .null, .null, .null, .null, .null, .null, .int 0, .int 0, .int 0, .int 0, .int 0, .int 0, .int 0, .int 0]) (K := 5) (N := 1640) (f := 9) 40 d_Model_init_48 d_Model_init_50 (fp_Model_25 rfl rfl rfl) (fun _ => rfl) (fun _ => rfl) (fun _ => rfl) (List.mem_cons_of_mem _ tw_44) hT (by decide) (by decide) rfl I2 (Nat.le_of_ble_eq_true rfl) (fun h2 I2 => ?_)
  refine ev_aload_n d_Model_init_53 rfl rfl ?_
  refine ev_sipush (v := 1600) d_Model_init_54 (by decide) ?_
  refine ev_arrB (t0 := 0) (pf := [.int 0, .ref (a + 1), .ref (a + 2), .int 0, .int 0, .int 0, .ref (a + 3), .ref (a + 4), .ref (a + 5), .ref (a + 6), .null, .int 0, .int 0, .null, .null, .null, .null, .null, .int 0, .null, .null, .null, .null, .null, .int 0, .int 0, .null, .int 0, .null, .null, .null, .null, .null, .null, .null, .null, .null, .int 0, .int 0, .int 0, .int 0, .int 0, .int 0, .int 0, .int 0]) (K := 6) (N := 1680) (f := 10) 1600 d_Model_init_57 d_Model_init_59 (fp_Model_28 rfl rfl rfl) (fun _ => rfl) (fun _ => rfl) (fun _ => rfl) (List.mem_cons_of_mem _ tw_44) hT (by decide) (by decide) rfl I2 (Nat.le_of_ble_eq_true rfl) (fun h2 I2 => ?_)
  refine ev_aload_n d_Model_init_62 rfl rfl ?_
  refine ev_sipush (v := 1501) d_Model_init_63 (by decide) ?_
  refine ev_arrB (t0 := 0) (pf := [.int 0, .ref (a + 1), .ref (a + 2), .int 0, .int 0, .int 0, .ref (a + 3), .ref (a + 4), .ref (a + 5), .ref (a + 6), .ref (a + 7), .int 0, .int 0, .null, .null, .null, .null, .null, .int 0, .null, .null, .null, .null, .null, .int 0, .int 0, .null, .int 0, .null, .null, .null, .null, .null, .null, .null, .null, .null, .int 0, .int 0, .int 0, .int 0, .int 0, .int 0, .int 0, .int 0]) (K := 7) (N := 3280) (f := 13) 1501 d_Model_init_66 d_Model_init_68 (fp_Model_31 rfl rfl rfl) (fun _ => rfl) (fun _ => rfl) (fun _ => rfl) (List.mem_cons_of_mem _ tw_44) hT (by decide) (by decide) rfl I2 (Nat.le_of_ble_eq_true rfl) (fun h2 I2 => ?_)
  refine ev_aload_n d_Model_init_71 rfl rfl ?_
  refine ev_sipush (v := 1501) d_Model_init_72 (by decide) ?_
  refine ev_arrB (t0 := 0) (pf := [.int 0, .ref (a + 1), .ref (a + 2), .int 0, .int 0, .int 0, .ref (a + 3), .ref (a + 4), .ref (a + 5), .ref (a + 6), .ref (a + 7), .int 0, .int 0, .ref (a + 8), .null, .null, .null, .null, .int 0, .null, .null, .null, .null, .null, .int 0, .int 0, .null, .int 0, .null, .null, .null, .null, .null, .null, .null, .null, .null, .int 0, .int 0, .int 0, .int 0, .int 0, .int 0, .int 0, .int 0]) (K := 8) (N := 4781) (f := 14) 1501 d_Model_init_75 d_Model_init_77 (fp_Model_34 rfl rfl rfl) (fun _ => rfl) (fun _ => rfl) (fun _ => rfl) (List.mem_cons_of_mem _ tw_44) hT (by decide) (by decide) rfl I2 (Nat.le_of_ble_eq_true rfl) (fun h2 I2 => ?_)
  refine ev_aload_n d_Model_init_80 rfl rfl ?_
  refine ev_sipush (v := 1501) d_Model_init_81 (by decide) ?_
  refine ev_arrB (t0 := 0) (pf := [.int 0, .ref (a + 1), .ref (a + 2), .int 0, .int 0, .int 0, .ref (a + 3), .ref (a + 4), .ref (a + 5), .ref (a + 6), .ref (a + 7), .int 0, .int 0, .ref (a + 8), .ref (a + 9), .null, .null, .null, .int 0, .null, .null, .null, .null, .null, .int 0, .int 0, .null, .int 0, .null, .null, .null, .null, .null, .null, .null, .null, .null, .int 0, .int 0, .int 0, .int 0, .int 0, .int 0, .int 0, .int 0]) (K := 9) (N := 6282) (f := 15) 1501 d_Model_init_84 d_Model_init_86 (fp_Model_37 rfl rfl rfl) (fun _ => rfl) (fun _ => rfl) (fun _ => rfl) (List.mem_cons_of_mem _ tw_44) hT (by decide) (by decide) rfl I2 (Nat.le_of_ble_eq_true rfl) (fun h2 I2 => ?_)
  refine ev_aload_n d_Model_init_89 rfl rfl ?_
  refine ev_sipush (v := 1501) d_Model_init_90 (by decide) ?_
  refine ev_arrB (t0 := 0) (pf := [.int 0, .ref (a + 1), .ref (a + 2), .int 0, .int 0, .int 0, .ref (a + 3), .ref (a + 4), .ref (a + 5), .ref (a + 6), .ref (a + 7), .int 0, .int 0, .ref (a + 8), .ref (a + 9), .ref (a + 10), .null, .null, .int 0, .null, .null, .null, .null, .null, .int 0, .int 0, .null, .int 0, .null, .null, .null, .null, .null, .null, .null, .null, .null, .int 0, .int 0, .int 0, .int 0, .int 0, .int 0, .int 0, .int 0]) (K := 10) (N := 7783) (f := 16) 1501 d_Model_init_93 d_Model_init_95 (fp_Model_40 rfl rfl rfl) (fun _ => rfl) (fun _ => rfl) (fun _ => rfl) (List.mem_cons_of_mem _ tw_44) hT (by decide) (by decide) rfl I2 (Nat.le_of_ble_eq_true rfl) (fun h2 I2 => ?_)
  refine ev_aload_n d_Model_init_98 rfl rfl ?_
  refine ev_sipush (v := 1600) d_Model_init_99 (by decide) ?_
  refine ev_arrB (t0 := 0) (pf := [.int 0, .ref (a + 1), .ref (a + 2), .int 0, .int 0, .int 0, .ref (a + 3), .ref (a + 4), .ref (a + 5), .ref (a + 6), .ref (a + 7), .int 0, .int 0, .ref (a + 8), .ref (a + 9), .ref (a + 10), .ref (a + 11), .null, .int 0, .null, .null, .null, .null, .null, .int 0, .int 0, .null, .int 0, .null, .null, .null, .null, .null, .null, .null, .null, .null, .int 0, .int 0, .int 0, .int 0, .int 0, .int 0, .int 0, .int 0]) (K := 11) (N := 9284) (f := 17) 1600 d_Model_init_102 d_Model_init_104 (fp_Model_43 rfl rfl rfl) (fun _ => rfl) (fun _ => rfl) (fun _ => rfl) (List.mem_cons_of_mem _ tw_44) hT (by decide) (by decide) rfl I2 (Nat.le_of_ble_eq_true rfl) (fun h2 I2 => ?_)
  refine ev_aload_n d_Model_init_107 rfl rfl ?_
  refine ev_sipush (v := 20000) d_Model_init_108 (by decide) ?_
  refine ev_arrB (t0 := 0) (pf := [.int 0, .ref (a + 1), .ref (a + 2), .int 0, .int 0, .int 0, .ref (a + 3), .ref (a + 4), .ref (a + 5), .ref (a + 6), .ref (a + 7), .int 0, .int 0, .ref (a + 8), .ref (a + 9), .ref (a + 10), .ref (a + 11), .ref (a + 12), .int 0, .null, .null, .null, .null, .null, .int 0, .int 0, .null, .int 0, .null, .null, .null, .null, .null, .null, .null, .null, .null, .int 0, .int 0, .int 0, .int 0, .int 0, .int 0, .int 0, .int 0]) (K := 12) (N := 10884) (f := 19) 20000 d_Model_init_111 d_Model_init_113 (fp_Model_46 rfl rfl rfl) (fun _ => rfl) (fun _ => rfl) (fun _ => rfl) (List.mem_cons_of_mem _ tw_44) hT (by decide) (by decide) rfl I2 (Nat.le_of_ble_eq_true rfl) (fun h2 I2 => ?_)
  refine ev_aload_n d_Model_init_116 rfl rfl ?_
  refine ev_iconst (v := 3) d_Model_init_117 (by decide) ?_
  refine ev_arrB (t0 := 0) (pf := [.int 0, .ref (a + 1), .ref (a + 2), .int 0, .int 0, .int 0, .ref (a + 3), .ref (a + 4), .ref (a + 5), .ref (a + 6), .ref (a + 7), .int 0, .int 0, .ref (a + 8), .ref (a + 9), .ref (a + 10), .ref (a + 11), .ref (a + 12), .int 0, .ref (a + 13), .null, .null, .null, .null, .int 0, .int 0, .null, .int 0, .null, .null, .null, .null, .null, .null, .null, .null, .null, .int 0, .int 0, .int 0, .int 0, .int 0, .int 0, .int 0, .int 0]) (K := 13) (N := 30884) (f := 20) 3 d_Model_init_118 d_Model_init_120 (fp_Model_49 rfl rfl rfl) (fun _ => rfl) (fun _ => rfl) (fun _ => rfl) (List.mem_cons_of_mem _ tw_44) hT (by decide) (by decide) rfl I2 (Nat.le_of_ble_eq_true rfl) (fun h2 I2 => ?_)
  refine ev_aload_n d_Model_init_123 rfl rfl ?_
  refine ev_bipush (v := 7) d_Model_init_124 (by decide) ?_
  refine ev_arrB (t0 := 0) (pf := [.int 0, .ref (a + 1), .ref (a + 2), .int 0, .int 0, .int 0, .ref (a + 3), .ref (a + 4), .ref (a + 5), .ref (a + 6), .ref (a + 7), .int 0, .int 0, .ref (a + 8), .ref (a + 9), .ref (a + 10), .ref (a + 11), .ref (a + 12), .int 0, .ref (a + 13), .ref (a + 14), .null, .null, .null, .int 0, .int 0, .null, .int 0, .null, .null, .null, .null, .null, .null, .null, .null, .null, .int 0, .int 0, .int 0, .int 0, .int 0, .int 0, .int 0, .int 0]) (K := 14) (N := 30887) (f := 21) 7 d_Model_init_126 d_Model_init_128 (fp_Model_52 rfl rfl rfl) (fun _ => rfl) (fun _ => rfl) (fun _ => rfl) (List.mem_cons_of_mem _ tw_44) hT (by decide) (by decide) rfl I2 (Nat.le_of_ble_eq_true rfl) (fun h2 I2 => ?_)
  refine ev_aload_n d_Model_init_131 rfl rfl ?_
  refine ev_sipush (v := 7000) d_Model_init_132 (by decide) ?_
  refine ev_arrB (t0 := 0) (pf := [.int 0, .ref (a + 1), .ref (a + 2), .int 0, .int 0, .int 0, .ref (a + 3), .ref (a + 4), .ref (a + 5), .ref (a + 6), .ref (a + 7), .int 0, .int 0, .ref (a + 8), .ref (a + 9), .ref (a + 10), .ref (a + 11), .ref (a + 12), .int 0, .ref (a + 13), .ref (a + 14), .ref (a + 15), .null, .null, .int 0, .int 0, .null, .int 0, .null, .null, .null, .null, .null, .null, .null, .null, .null, .int 0, .int 0, .int 0, .int 0, .int 0, .int 0, .int 0, .int 0]) (K := 15) (N := 30894) (f := 22) 7000 d_Model_init_135 d_Model_init_137 (fp_Model_55 rfl rfl rfl) (fun _ => rfl) (fun _ => rfl) (fun _ => rfl) (List.mem_cons_of_mem _ tw_44) hT (by decide) (by decide) rfl I2 (Nat.le_of_ble_eq_true rfl) (fun h2 I2 => ?_)
  refine ev_aload_n d_Model_init_140 rfl rfl ?_
  refine ev_sipush (v := 7000) d_Model_init_141 (by decide) ?_
  refine ev_arrB (t0 := 0) (pf := [.int 0, .ref (a + 1), .ref (a + 2), .int 0, .int 0, .int 0, .ref (a + 3), .ref (a + 4), .ref (a + 5), .ref (a + 6), .ref (a + 7), .int 0, .int 0, .ref (a + 8), .ref (a + 9), .ref (a + 10), .ref (a + 11), .ref (a + 12), .int 0, .ref (a + 13), .ref (a + 14), .ref (a + 15), .ref (a + 16), .null, .int 0, .int 0, .null, .int 0, .null, .null, .null, .null, .null, .null, .null, .null, .null, .int 0, .int 0, .int 0, .int 0, .int 0, .int 0, .int 0, .int 0]) (K := 16) (N := 37894) (f := 23) 7000 d_Model_init_144 d_Model_init_146 (fp_Model_58 rfl rfl rfl) (fun _ => rfl) (fun _ => rfl) (fun _ => rfl) (List.mem_cons_of_mem _ tw_44) hT (by decide) (by decide) rfl I2 (Nat.le_of_ble_eq_true rfl) (fun h2 I2 => ?_)
  refine ev_aload_n d_Model_init_149 rfl rfl ?_
  refine ev_sipush (v := 1000) d_Model_init_150 (by decide) ?_
  refine ev_arrB (t0 := 0) (pf := [.int 0, .ref (a + 1), .ref (a + 2), .int 0, .int 0, .int 0, .ref (a + 3), .ref (a + 4), .ref (a + 5), .ref (a + 6), .ref (a + 7), .int 0, .int 0, .ref (a + 8), .ref (a + 9), .ref (a + 10), .ref (a + 11), .ref (a + 12), .int 0, .ref (a + 13), .ref (a + 14), .ref (a + 15), .ref (a + 16), .ref (a + 17), .int 0, .int 0, .null, .int 0, .null, .null, .null, .null, .null, .null, .null, .null, .null, .int 0, .int 0, .int 0, .int 0, .int 0, .int 0, .int 0, .int 0]) (K := 17) (N := 44894) (f := 26) 1000 d_Model_init_153 d_Model_init_155 (fp_Model_61 rfl rfl rfl) (fun _ => rfl) (fun _ => rfl) (fun _ => rfl) (List.mem_cons_of_mem _ tw_44) hT (by decide) (by decide) rfl I2 (Nat.le_of_ble_eq_true rfl) (fun h2 I2 => ?_)
  refine ev_aload_n d_Model_init_158 rfl rfl ?_
  refine ev_sipush (v := 800) d_Model_init_159 (by decide) ?_
  refine ev_arrB (t0 := 0) (pf := [.int 0, .ref (a + 1), .ref (a + 2), .int 0, .int 0, .int 0, .ref (a + 3), .ref (a + 4), .ref (a + 5), .ref (a + 6), .ref (a + 7), .int 0, .int 0, .ref (a + 8), .ref (a + 9), .ref (a + 10), .ref (a + 11), .ref (a + 12), .int 0, .ref (a + 13), .ref (a + 14), .ref (a + 15), .ref (a + 16), .ref (a + 17), .int 0, .int 0, .ref (a + 18), .int 0, .null, .null, .null, .null, .null, .null, .null, .null, .null, .int 0, .int 0, .int 0, .int 0, .int 0, .int 0, .int 0, .int 0]) (K := 18) (N := 45894) (f := 28) 800 d_Model_init_162 d_Model_init_164 (fp_Model_64 rfl rfl rfl) (fun _ => rfl) (fun _ => rfl) (fun _ => rfl) (List.mem_cons_of_mem _ tw_44) hT (by decide) (by decide) rfl I2 (Nat.le_of_ble_eq_true rfl) (fun h2 I2 => ?_)
  refine ev_aload_n d_Model_init_167 rfl rfl ?_
  refine ev_sipush (v := 800) d_Model_init_168 (by decide) ?_
  refine ev_arrB (t0 := 0) (pf := [.int 0, .ref (a + 1), .ref (a + 2), .int 0, .int 0, .int 0, .ref (a + 3), .ref (a + 4), .ref (a + 5), .ref (a + 6), .ref (a + 7), .int 0, .int 0, .ref (a + 8), .ref (a + 9), .ref (a + 10), .ref (a + 11), .ref (a + 12), .int 0, .ref (a + 13), .ref (a + 14), .ref (a + 15), .ref (a + 16), .ref (a + 17), .int 0, .int 0, .ref (a + 18), .int 0, .ref (a + 19), .null, .null, .null, .null, .null, .null, .null, .null, .int 0, .int 0, .int 0, .int 0, .int 0, .int 0, .int 0, .int 0]) (K := 19) (N := 46694) (f := 29) 800 d_Model_init_171 d_Model_init_173 (fp_Model_67 rfl rfl rfl) (fun _ => rfl) (fun _ => rfl) (fun _ => rfl) (List.mem_cons_of_mem _ tw_44) hT (by decide) (by decide) rfl I2 (Nat.le_of_ble_eq_true rfl) (fun h2 I2 => ?_)
  refine ev_aload_n d_Model_init_176 rfl rfl ?_
  refine ev_sipush (v := 800) d_Model_init_177 (by decide) ?_
  refine ev_arrB (t0 := 0) (pf := [.int 0, .ref (a + 1), .ref (a + 2), .int 0, .int 0, .int 0, .ref (a + 3), .ref (a + 4), .ref (a + 5), .ref (a + 6), .ref (a + 7), .int 0, .int 0, .ref (a + 8), .ref (a + 9), .ref (a + 10), .ref (a + 11), .ref (a + 12), .int 0, .ref (a + 13), .ref (a + 14), .ref (a + 15), .ref (a + 16), .ref (a + 17), .int 0, .int 0, .ref (a + 18), .int 0, .ref (a + 19), .ref (a + 20), .null, .null, .null, .null, .null, .null, .null, .int 0, .int 0, .int 0, .int 0, .int 0, .int 0, .int 0, .int 0]) (K := 20) (N := 47494) (f := 30) 800 d_Model_init_180 d_Model_init_182 (fp_Model_70 rfl rfl rfl) (fun _ => rfl) (fun _ => rfl) (fun _ => rfl) (List.mem_cons_of_mem _ tw_44) hT (by decide) (by decide) rfl I2 (Nat.le_of_ble_eq_true rfl) (fun h2 I2 => ?_)
  refine ev_aload_n d_Model_init_185 rfl rfl ?_
  refine ev_sipush (v := 800) d_Model_init_186 (by decide) ?_
  refine ev_arrB (t0 := 1) (pf := [.int 0, .ref (a + 1), .ref (a + 2), .int 0, .int 0, .int 0, .ref (a + 3), .ref (a + 4), .ref (a + 5), .ref (a + 6), .ref (a + 7), .int 0, .int 0, .ref (a + 8), .ref (a + 9), .ref (a + 10), .ref (a + 11), .ref (a + 12), .int 0, .ref (a + 13), .ref (a + 14), .ref (a + 15), .ref (a + 16), .ref (a + 17), .int 0, .int 0, .ref (a + 18), .int 0, .ref (a + 19), .ref (a + 20), .ref (a + 21), .null, .null, .null, .null, .null, .null, .int 0, .int 0, .int 0, .int 0, .int 0, .int 0, .int 0, .int 0]) (K := 21) (N := 48294) (f := 31) 800 d_Model_init_189 d_Model_init_191 (fp_Model_73 rfl rfl rfl) (fun _ => rfl) (fun _ => rfl) (fun _ => rfl) (List.mem_cons_of_mem _ tw_1056) hZ (by decide) (by decide) rfl I2 (Nat.le_of_ble_eq_true rfl) (fun h2 I2 => ?_)
  refine ev_aload_n d_Model_init_194 rfl rfl ?_
  refine ev_sipush (v := 800) d_Model_init_195 (by decide) ?_
  refine ev_arrB (t0 := 0) (pf := [.int 0, .ref (a + 1), .ref (a + 2), .int 0, .int 0, .int 0, .ref (a + 3), .ref (a + 4), .ref (a + 5), .ref (a + 6), .ref (a + 7), .int 0, .int 0, .ref (a + 8), .ref (a + 9), .ref (a + 10), .ref (a + 11), .ref (a + 12), .int 0, .ref (a + 13), .ref (a + 14), .ref (a + 15), .ref (a + 16), .ref (a + 17), .int 0, .int 0, .ref (a + 18), .int 0, .ref (a + 19), .ref (a + 20), .ref (a + 21), .ref (a + 22), .null, .null, .null, .null, .null, .int 0, .int 0, .int 0, .int 0, .int 0, .int 0, .int 0, .int 0]) (K := 22) (N := 49094) (f := 32) 800 d_Model_init_198 d_Model_init_200 (fp_Model_77 rfl rfl rfl) (fun _ => rfl) (fun _ => rfl) (fun _ => rfl) (List.mem_cons_of_mem _ tw_44) hT (by decide) (by decide) rfl I2 (Nat.le_of_ble_eq_true rfl) (fun h2 I2 => ?_)
  refine ev_aload_n d_Model_init_203 rfl rfl ?_
  refine ev_sipush (v := 800) d_Model_init_204 (by decide) ?_
  refine ev_arrB (t0 := 0) (pf := [.int 0, .ref (a + 1), .ref (a + 2), .int 0, .int 0, .int 0, .ref (a + 3), .ref (a + 4), .ref (a + 5), .ref (a + 6), .ref (a + 7), .int 0, .int 0, .ref (a + 8), .ref (a + 9), .ref (a + 10), .ref (a + 11), .ref (a + 12), .int 0, .ref (a + 13), .ref (a + 14), .ref (a + 15), .ref (a + 16), .ref (a + 17), .int 0, .int 0, .ref (a + 18), .int 0, .ref (a + 19), .ref (a + 20), .ref (a + 21), .ref (a + 22), .ref (a + 23), .null, .null, .null, .null, .int 0, .int 0, .int 0, .int 0, .int 0, .int 0, .int 0, .int 0]) (K := 23) (N := 49894) (f := 33) 800 d_Model_init_207 d_Model_init_209 (fp_Model_80 rfl rfl rfl) (fun _ => rfl) (fun _ => rfl) (fun _ => rfl) (List.mem_cons_of_mem _ tw_44) hT (by decide) (by decide) rfl I2 (Nat.le_of_ble_eq_true rfl) (fun h2 I2 => ?_)
  refine ev_aload_n d_Model_init_212 rfl rfl ?_
  refine ev_sipush (v := 1600) d_Model_init_213 (by decide) ?_
  refine ev_arrB (t0 := 0) (pf := [.int 0, .ref (a + 1), .ref (a + 2), .int 0, .int 0, .int 0, .ref (a + 3), .ref (a + 4), .ref (a + 5), .ref (a + 6), .ref (a + 7), .int 0, .int 0, .ref (a + 8), .ref (a + 9), .ref (a + 10), .ref (a + 11), .ref (a + 12), .int 0, .ref (a + 13), .ref (a + 14), .ref (a + 15), .ref (a + 16), .ref (a + 17), .int 0, .int 0, .ref (a + 18), .int 0, .ref (a + 19), .ref (a + 20), .ref (a + 21), .ref (a + 22), .ref (a + 23), .ref (a + 24), .null, .null, .null, .int 0, .int 0, .int 0, .int 0, .int 0, .int 0, .int 0, .int 0]) (K := 24) (N := 50694) (f := 34) 1600 d_Model_init_216 d_Model_init_218 (fp_Model_83 rfl rfl rfl) (fun _ => rfl) (fun _ => rfl) (fun _ => rfl) (List.mem_cons_of_mem _ tw_44) hT (by decide) (by decide) rfl I2 (Nat.le_of_ble_eq_true rfl) (fun h2 I2 => ?_)
  refine ev_aload_n d_Model_init_221 rfl rfl ?_
  refine ev_sipush (v := 1600) d_Model_init_222 (by decide) ?_
  refine ev_arrB (t0 := 0) (pf := [.int 0, .ref (a + 1), .ref (a + 2), .int 0, .int 0, .int 0, .ref (a + 3), .ref (a + 4), .ref (a + 5), .ref (a + 6), .ref (a + 7), .int 0, .int 0, .ref (a + 8), .ref (a + 9), .ref (a + 10), .ref (a + 11), .ref (a + 12), .int 0, .ref (a + 13), .ref (a + 14), .ref (a + 15), .ref (a + 16), .ref (a + 17), .int 0, .int 0, .ref (a + 18), .int 0, .ref (a + 19), .ref (a + 20), .ref (a + 21), .ref (a + 22), .ref (a + 23), .ref (a + 24), .ref (a + 25), .null, .null, .int 0, .int 0, .int 0, .int 0, .int 0, .int 0, .int 0, .int 0]) (K := 25) (N := 52294) (f := 35) 1600 d_Model_init_225 d_Model_init_227 (fp_Model_86 rfl rfl rfl) (fun _ => rfl) (fun _ => rfl) (fun _ => rfl) (List.mem_cons_of_mem _ tw_44) hT (by decide) (by decide) rfl I2 (Nat.le_of_ble_eq_true rfl) (fun h2 I2 => ?_)
  refine ev_aload_n d_Model_init_230 rfl rfl ?_
  refine ev_sipush (v := 1600) d_Model_init_231 (by decide) ?_
  refine ev_arrB (t0 := 0) (pf := [.int 0, .ref (a + 1), .ref (a + 2), .int 0, .int 0, .int 0, .ref (a + 3), .ref (a + 4), .ref (a + 5), .ref (a + 6), .ref (a + 7), .int 0, .int 0, .ref (a + 8), .ref (a + 9), .ref (a + 10), .ref (a + 11), .ref (a + 12), .int 0, .ref (a + 13), .ref (a + 14), .ref (a + 15), .ref (a + 16), .ref (a + 17), .int 0, .int 0, .ref (a + 18), .int 0, .ref (a + 19), .ref (a + 20), .ref (a + 21), .ref (a + 22), .ref (a + 23), .ref (a + 24), .ref (a + 25), .ref (a + 26), .null, .int 0, .int 0, .int 0, .int 0, .int 0, .int 0, .int 0, .int 0]) (K := 26) (N := 53894) (f := 36) 1600 d_Model_init_234 d_Model_init_236 (fp_Model_89 rfl rfl rfl) (fun _ => rfl) (fun _ => rfl) (fun _ => rfl) (List.mem_cons_of_mem _ tw_44) hT (by decide) (by decide) rfl I2 (Nat.le_of_ble_eq_true rfl) (fun h2 I2 => ?_)
  refine ev_aload_n d_Model_init_239 rfl rfl ?_
  refine ev_iconst (v := (-1)) d_Model_init_240 (by decide) ?_
  refine ev_put (fp_Model_92 rfl rfl) d_Model_init_241 I2.2.2.2.1 (Nat.le_of_ble_eq_true rfl) rfl rfl ?_
  refine ev_aload_n d_Model_init_244 rfl rfl ?_
  refine ev_iconst (v := (-1)) d_Model_init_245 (by decide) ?_
  refine ev_put (fp_Model_96 rfl rfl) d_Model_init_246 (hp_up_self _ _ _) (Nat.le_of_ble_eq_true rfl) rfl rfl ?_
  refine ev_vret d_Model_init_249 rfl ?_
  exact ⟨rfl, ci_end (ci_put (n := 38) (v := .int (-1)) (ci_put (n := 37) (v := .int (-1)) I2))⟩
theorem mo_new {h h' : hp_T} {a N : Nat} (C : nb h h' a 27 N (bo (.inr (9, mo_obj a mo_I0)) (mo_B cI cZ))) : mo_ov cI cZ h' a mo_I0 (fun _ _ => 0) = h' := by
  obtain ⟨-, -, c3, -⟩ := C
  refine Prod.ext rfl (Prod.ext rfl (funext fun q => ?_))
  show (if q = a then _ else if a < q ∧ q ≤ a + 27 then _ else h'.2.2 q) = h'.2.2 q
  by_cases h1 : q = a
  · rw [if_pos h1, h1]
    exact (c3 0 (by decide)).symm
  · rw [if_neg h1]
    by_cases h2 : a < q ∧ q ≤ a + 27
    · rw [if_pos h2]
      obtain ⟨k, rfl⟩ : ∃ k, q = a + (k + 1) := ⟨q - a - 1, by omega⟩
      rw [c3 (k + 1) (by omega), Nat.add_sub_cancel_left]
      show some (Sum.inl (if a + (k + 1) = a + 22 then cZ else cI, _)) = some (Sum.inl (if k = 21 then cZ else cI, _))
      by_cases h3 : k = 21
      · rw [if_pos h3, if_pos (by omega)]
        rfl
      · rw [if_neg h3, if_neg (by omega)]
        rfl
    · rw [if_neg h2]
end MODELINIT
