/-! The reference (class 9): its ints as registers I by their field numbers, its arrays as rows R by the order in which they are made; they lie behind the object at M, in that order. -/
def mo_len : Nat → Nat := fun k => match k with
  | 1 => 20
  | 2 => 1500
  | 3 => 40
  | 4 => 40
  | 5 => 40
  | 6 => 40
  | 7 => 1600
  | 8 => 1501
  | 9 => 1501
  | 10 => 1501
  | 11 => 1501
  | 12 => 1600
  | 13 => 20000
  | 14 => 3
  | 15 => 7
  | 16 => 7000
  | 17 => 7000
  | 18 => 1000
  | 19 => 800
  | 20 => 800
  | 21 => 800
  | 22 => 800
  | 23 => 800
  | 24 => 800
  | 25 => 1600
  | 26 => 1600
  | 27 => 1600
  | _ => 0
def mo_int (k : Nat) : Bool := decide (1 ≤ k) && decide (k ≤ 27) && !decide (k = 22)
def mo_obj (M : Nat) (I : Nat → Int32) : List Value := [.int (I 0), .ref (M + 1), .ref (M + 2), .int (I 3), .int (I 4), .int (I 5), .ref (M + 3), .ref (M + 4), .ref (M + 5), .ref (M + 6), .ref (M + 7), .int (I 11), .int (I 12), .ref (M + 8), .ref (M + 9), .ref (M + 10), .ref (M + 11), .ref (M + 12), .int (I 18), .ref (M + 13), .ref (M + 14), .ref (M + 15), .ref (M + 16), .ref (M + 17), .int (I 24), .int (I 25), .ref (M + 18), .int (I 27), .ref (M + 19), .ref (M + 20), .ref (M + 21), .ref (M + 22), .ref (M + 23), .ref (M + 24), .ref (M + 25), .ref (M + 26), .ref (M + 27), .int (I 37), .int (I 38), .int (I 39), .int (I 40), .int (I 41), .int (I 42), .int (I 43), .int (I 44)]
/-- the cells with the reference laid over h0 -/
def mo_ov (cI cZ : ClassId) (h0 : hp_T) (M : Nat) (I : Nat → Int32) (R : Nat → Nat → Int32) : hp_T := (h0.1, h0.2.1, fun q => if q = M then some (.inr (9, mo_obj M I)) else if M < q ∧ q ≤ M + 27 then some (.inl (if q = M + 22 then cZ else cI, mo_len (q - M), .inl (R (q - M)))) else h0.2.2 q)
theorem mo_self {cI cZ : ClassId} {h0 : hp_T} {M : Nat} {I : Nat → Int32} {R : Nat → Nat → Int32} : (mo_ov cI cZ h0 M I R).2.2 M = some (.inr (9, mo_obj M I)) := if_pos rfl
theorem mo_arr {cI cZ : ClassId} {h0 : hp_T} {M : Nat} {I : Nat → Int32} {R : Nat → Nat → Int32} {k : Nat} (hk : mo_int k = true) : (mo_ov cI cZ h0 M I R).2.2 (M + k) = some (.inl (cI, mo_len k, .inl (R k))) := by
  simp only [mo_int, Bool.and_eq_true, decide_eq_true_eq, Bool.not_eq_true', decide_eq_false_iff_not] at hk
  obtain ⟨⟨h1, h2⟩, h3⟩ := hk
  show (if M + k = M then _ else if M < M + k ∧ M + k ≤ M + 27 then _ else _) = _
  rw [if_neg (by omega), if_pos (by omega), if_neg (by omega), Nat.add_sub_cancel_left]
theorem mo_arrZ {cI cZ : ClassId} {h0 : hp_T} {M : Nat} {I : Nat → Int32} {R : Nat → Nat → Int32} : (mo_ov cI cZ h0 M I R).2.2 (M + 22) = some (.inl (cZ, mo_len 22, .inl (R 22))) := by
  show (if M + 22 = M then _ else if M < M + 22 ∧ M + 22 ≤ M + 27 then _ else _) = _
  rw [if_neg (by omega), if_pos (by omega), if_pos rfl, Nat.add_sub_cancel_left]
theorem mo_out {cI cZ : ClassId} {h0 : hp_T} {M q : Nat} {I : Nat → Int32} {R : Nat → Nat → Int32} (h : q < M ∨ M + 27 < q) : (mo_ov cI cZ h0 M I R).2.2 q = h0.2.2 q := by
  show (if q = M then _ else if M < q ∧ q ≤ M + 27 then _ else _) = _
  rw [if_neg (by omega), if_neg (by omega)]
theorem mo_upI {cI cZ : ClassId} {h0 : hp_T} {M : Nat} {I J : Nat → Int32} {R : Nat → Nat → Int32} : hp_up (mo_ov cI cZ h0 M I R) M (.inr (9, mo_obj M J)) = mo_ov cI cZ h0 M J R := by
  unfold hp_up mo_ov
  congr 2
  funext q
  by_cases hq : q = M
  · simp [hq]
  · simp [hq]
theorem mo_upR {cI cZ : ClassId} {h0 : hp_T} {M : Nat} {I : Nat → Int32} {R : Nat → Nat → Int32} {k : Nat} {f : Nat → Int32} (hk : mo_int k = true) : hp_up (mo_ov cI cZ h0 M I R) (M + k) (.inl (cI, mo_len k, .inl f)) = mo_ov cI cZ h0 M I (va_up R k f) := by
  simp only [mo_int, Bool.and_eq_true, decide_eq_true_eq, Bool.not_eq_true', decide_eq_false_iff_not] at hk
  obtain ⟨⟨h1, h2⟩, h3⟩ := hk
  unfold hp_up mo_ov
  congr 2
  funext q
  by_cases hq : q = M + k
  · subst hq
    rw [if_pos rfl, if_neg (by omega), if_pos (by omega), if_neg (by omega), Nat.add_sub_cancel_left, va_up_self]
  · rw [if_neg hq]
    by_cases hM : q = M
    · simp [hM]
    · by_cases hr : M < q ∧ q ≤ M + 27
      · simp only [if_neg hM, if_pos hr]
        rw [va_up_ne _ _ (show q - M ≠ k by omega)]
      · simp only [if_neg hM, if_neg hr]
theorem mo_upZ {cI cZ : ClassId} {h0 : hp_T} {M : Nat} {I : Nat → Int32} {R : Nat → Nat → Int32} {f : Nat → Int32} : hp_up (mo_ov cI cZ h0 M I R) (M + 22) (.inl (cZ, mo_len 22, .inl f)) = mo_ov cI cZ h0 M I (va_up R 22 f) := by
  unfold hp_up mo_ov
  congr 2
  funext q
  by_cases hq : q = M + 22
  · subst hq
    rw [if_pos rfl, if_neg (by omega), if_pos (by omega), if_pos rfl, Nat.add_sub_cancel_left, va_up_self]
  · rw [if_neg hq]
    by_cases hM : q = M
    · simp [hM]
    · by_cases hr : M < q ∧ q ≤ M + 27
      · simp only [if_neg hM, if_pos hr]
        rw [va_up_ne _ _ (show q - M ≠ 22 by omega)]
      · simp only [if_neg hM, if_neg hr]
section MO
variable {G : gl_G} {μ ν : mt_M} {pc : Nat} {lv : List (Nat × Value)} {st : List Value} {Z : Option Value → hp_T → Prop} {cI cZ : ClassId} {h0 : hp_T} {M : Nat} {I : Nat → Int32} {R : Nat → Nat → Int32} {index : Nat}
theorem mo_get {f : Nat} {v : Value} (F : fa_at μ index 9 f) (hd : decode (mt_b μ) pc = .ok (.getfield index, 3)) (hv : (mo_obj M I)[f]? = some v) (kk : ev_E G μ (pc + 3) lv (v :: st) (mo_ov cI cZ h0 M I R) Z) : ev_E G μ pc lv (.ref M :: st) (mo_ov cI cZ h0 M I R) Z := ev_get F hd mo_self hv kk
theorem mo_put {f : Nat} {x : Int32} {t : FieldType} (F : fa_put μ index 9 f t) (hd : decode (mt_b μ) pc = .ok (.putfield index, 3)) (hl : f < (mo_obj M I).length) (hn : narrow t (.int x) = .int x) (hfit : fits t (.int x) = true) (hs : (mo_obj M I).set f (.int x) = mo_obj M (upd I f x)) (kk : ev_E G μ (pc + 3) lv st (mo_ov cI cZ h0 M (upd I f x) R) Z) : ev_E G μ pc lv (.int x :: .ref M :: st) (mo_ov cI cZ h0 M I R) Z := by
  refine ev_put F hd mo_self hl hn hfit ?_
  rw [hs, mo_upI]
  exact kk
theorem mo_ald (hT : (gl_t G)[0]? = some (cI, .int)) {k : Nat} {i : Int32} (hd : decode (mt_b μ) pc = .ok (.iaload, 1)) (hk : mo_int k = true) (hi : vp_in i (mo_len k)) (kk : ev_E G μ (pc + 1) lv (.int (R k i.toNatClampNeg) :: st) (mo_ov cI cZ h0 M I R) Z) : ev_E G μ pc lv (.int i :: .ref (M + k) :: st) (mo_ov cI cZ h0 M I R) Z := ev_iald hT (mo_arr hk) hi hd kk
theorem mo_ast (hT : (gl_t G)[0]? = some (cI, .int)) {k : Nat} {i x : Int32} (hd : decode (mt_b μ) pc = .ok (.iastore, 1)) (hk : mo_int k = true) (hi : vp_in i (mo_len k)) (kk : ev_E G μ (pc + 1) lv st (mo_ov cI cZ h0 M I (va_up R k (upd (R k) i.toNatClampNeg x))) Z) : ev_E G μ pc lv (.int x :: .int i :: .ref (M + k) :: st) (mo_ov cI cZ h0 M I R) Z := by
  refine ev_iast hT (mo_arr hk) hi hd ?_
  rw [mo_upR hk]
  exact kk
theorem mo_zald (hZ : (gl_t G)[1]? = some (cZ, .boolean)) {i : Int32} (hd : decode (mt_b μ) pc = .ok (.baload, 1)) (hi : vp_in i (mo_len 22)) (kk : ev_E G μ (pc + 1) lv (.int (R 22 i.toNatClampNeg) :: st) (mo_ov cI cZ h0 M I R) Z) : ev_E G μ pc lv (.int i :: .ref (M + 22) :: st) (mo_ov cI cZ h0 M I R) Z := ev_zald hZ mo_arrZ hi hd kk
theorem mo_zast (hZ : (gl_t G)[1]? = some (cZ, .boolean)) {i x : Int32} (hd : decode (mt_b μ) pc = .ok (.bastore, 1)) (hi : vp_in i (mo_len 22)) (kk : ev_E G μ (pc + 1) lv st (mo_ov cI cZ h0 M I (va_up R 22 (upd (R 22) i.toNatClampNeg (vp_nar .boolean x)))) Z) : ev_E G μ pc lv (.int x :: .int i :: .ref (M + 22) :: st) (mo_ov cI cZ h0 M I R) Z := by
  refine ev_zast hZ mo_arrZ hi hd ?_
  rw [mo_upZ]
  exact kk
theorem mo_Vv {v : Value} (As rest : List Value) (F : ca_V μ ν index As.length) (hd : decode (mt_b μ) pc = .ok (.invokevirtual index, 3)) (hc : (mt_y ν).cls = "MailHeadsModel") (hroom : (rest.map fun v => v.category).sum ≤ 8) (hM : ct_E G ν (.ref M :: As) (mo_ov cI cZ h0 M I R) (cv v (mo_ov cI cZ h0 M I R))) (kk : ev_E G μ (pc + 3) lv (v :: rest) (mo_ov cI cZ h0 M I R) Z) : ev_E G μ pc lv (As.reverse ++ .ref M :: rest) (mo_ov cI cZ h0 M I R) Z := ev_Vv (ci := 9) As rest F hd (by rw [hc]; rfl) mo_self rfl hroom hM kk
theorem mo_Vn {P : hp_T → Prop} (As rest : List Value) (F : ca_V μ ν index As.length) (hd : decode (mt_b μ) pc = .ok (.invokevirtual index, 3)) (hc : (mt_y ν).cls = "MailHeadsModel") (hroom : (rest.map fun v => v.category).sum ≤ 8) (hM : ct_E G ν (.ref M :: As) (mo_ov cI cZ h0 M I R) (cn P)) (kk : ∀ h1, P h1 → ev_E G μ (pc + 3) lv rest h1 Z) : ev_E G μ pc lv (As.reverse ++ .ref M :: rest) (mo_ov cI cZ h0 M I R) Z := ev_Vn (ci := 9) As rest F hd (by rw [hc]; rfl) mo_self rfl hroom hM kk
theorem mo_Vr {P : Value → hp_T → Prop} (As rest : List Value) (F : ca_V μ ν index As.length) (hd : decode (mt_b μ) pc = .ok (.invokevirtual index, 3)) (hc : (mt_y ν).cls = "MailHeadsModel") (hroom : (rest.map fun v => v.category).sum ≤ 8) (hM : ct_E G ν (.ref M :: As) (mo_ov cI cZ h0 M I R) (cr P)) (kk : ∀ v h1, P v h1 → ev_E G μ (pc + 3) lv (v :: rest) h1 Z) : ev_E G μ pc lv (As.reverse ++ .ref M :: rest) (mo_ov cI cZ h0 M I R) Z := ev_Vr (ci := 9) As rest F hd (by rw [hc]; rfl) mo_self rfl hroom hM kk
end MO
