/-! addresses: what both make of the words -/
/-- a word of a name -/
def ad_isN (w : Int32 × Int32 × List Int32) : Bool := decide (w.1 = 4 ∨ w.1 = 1) || wIs w 46
def ad_all : Wds → Bool
  | [] => true
  | w :: t => ad_isN w && ad_all t
/-- a name's bytes -/
def ad_nT : Bool → Wds → List Int32
  | _, [] => []
  | s, w :: t => (bif s && !wIs w 46 then [32] else []) ++ (w.2.2 ++ ad_nT true t)
/-- words one behind the other -/
def ad_wT : Wds → List Int32
  | [] => []
  | w :: t => (if w.1 = 2 then [91] else []) ++ (w.2.2 ++ ((if w.1 = 2 then [93] else []) ++ ad_wT t))
def ad_rw (q : Bool) (w : Int32 × Int32 × List Int32) : Bool := decide (w.1 = 4) || (q && decide (w.1 = 1))
/-- how many words has the row with . between that begins here; none if a word is wanting -/
def ad_dE (q : Bool) : Wds → Option Nat
  | [] => none
  | [w] => bif ad_rw q w then some 1 else none
  | w :: d :: t => bif ad_rw q w then (bif wIs d 46 then (ad_dE q t).map (fun n => n + 2) else some 1) else none
/-- behind the first word of such a row: how many more -/
def ad_rR (q : Bool) : Wds → Nat
  | [] => 0
  | [_] => 0
  | d :: w :: t => bif wIs d 46 && ad_rw q w then ad_rR q t + 2 else 0
def ad_rE (q : Bool) : Wds → Nat
  | [] => 0
  | w :: t => bif ad_rw q w then ad_rR q t + 1 else 0
theorem ad_rR_le (q : Bool) : ∀ s : Wds, ad_rR q s ≤ s.length
  | [] => Nat.le_refl _
  | [_] => Nat.zero_le _
  | d :: w :: t => by
    have := ad_rR_le q t
    rw [ad_rR]
    cases wIs d 46 && ad_rw q w
    · exact Nat.zero_le _
    · simp only [cond_true, List.length_cons]; omega
theorem ad_rE_le (q : Bool) : ∀ s : Wds, ad_rE q s ≤ s.length
  | [] => Nat.le_refl _
  | w :: t => by
    have := ad_rR_le q t
    rw [ad_rE]
    cases ad_rw q w
    · exact Nat.zero_le _
    · simp only [cond_true, List.length_cons]; omega
/-- where such a row ends as the class says it -/
def ad_dF (s : Wds) (n : Nat) : Option Nat := if n = 0 then none else match s[n]? with
  | some d => bif wIs d 46 then none else some n
  | none => some n
theorem ad_dE_eq (q : Bool) : ∀ s : Wds, ad_dE q s = ad_dF s (ad_rE q s)
  | [] => rfl
  | [w] => by
    rw [ad_dE, ad_rE, ad_rR]
    cases ad_rw q w <;> rfl
  | w :: d :: t => by
    have ih := ad_dE_eq q t
    rw [ad_dE, ad_rE]
    cases hw : ad_rw q w with
    | false => rfl
    | true =>
      simp only [cond_true]
      cases hd : wIs d 46 with
      | false =>
        have e : ad_rR q (d :: t) = 0 := by
          cases t with
          | nil => rfl
          | cons w2 t2 => rw [ad_rR, hd]; rfl
        rw [e]
        simp [ad_dF, hd]
      | true =>
        simp only [cond_true]
        cases t with
        | nil => simp [ad_dE, ad_rR, ad_dF, hd]
        | cons w2 t2 =>
          rw [ih]
          cases h2 : ad_rw q w2 with
          | false =>
            have e : ad_rR q (d :: w2 :: t2) = 0 := by rw [ad_rR, hd, h2]; rfl
            have e2 : ad_rE q (w2 :: t2) = 0 := by rw [ad_rE, h2]; rfl
            rw [e, e2]
            simp [ad_dF, hd]
          | true =>
            have e : ad_rR q (d :: w2 :: t2) = ad_rR q t2 + 2 := by rw [ad_rR, hd, h2]; rfl
            have e2 : ad_rE q (w2 :: t2) = ad_rR q t2 + 1 := by rw [ad_rE, h2]; rfl
            rw [e, e2]
            unfold ad_dF
            rw [if_neg (by omega), if_neg (by omega)]
            rw [show (w :: d :: w2 :: t2)[ad_rR q t2 + 2 + 1]? = (w2 :: t2)[ad_rR q t2 + 1]? from rfl]
            cases (w2 :: t2)[ad_rR q t2 + 1]? with
            | none => rfl
            | some x => cases hx : wIs x 46 <;> simp [hx]
/-- what stands behind @ -/
def ad_dom : Wds → Bool
  | [] => false
  | w :: t => if w.1 = 2 then t.isEmpty else decide (ad_rE false (w :: t) = t.length + 1)
/-- a SPEC: how many words its LOCAL has -/
def ad_spc (s : Wds) : Option Nat := if ad_rE true s = 0 then none else match s.drop (ad_rE true s) with
  | [] => some (ad_rE true s)
  | w :: d => bif wIs w 64 && ad_dom d then some (ad_rE true s) else none
/-- how many words a ROUTE has -/
def ad_rN : Wds → Option Nat
  | [] => none
  | w :: t => bif wIs w 58 then some 1 else bif decide (w.1 = 4) || (wIs w 64 || (wIs w 44 || wIs w 46)) then (ad_rN t).map (fun n => n + 1) else none
def ad_rt (s : Wds) : Wds := s.drop ((ad_rN s).getD 0)
/-- where the first < stands -/
def ad_op : Wds → Nat
  | [] => 0
  | w :: t => bif wIs w 60 then 0 else ad_op t + 1
/-- the last one is > -/
def ad_lst (g : Wds) : Bool := match g[g.length - 1]? with
  | some w => wIs w 62
  | none => false
def ad_fin (tt : List Int32) (s : Wds) : Option (List Int32 × List Int32 × List Int32) := (ad_spc s).map (fun n => (tt, ad_wT (s.take n), ad_wT (s.drop (n + 1))))
/-- what was gathered, as a MAILBOX -/
def ad_mb (g : Wds) (cm : List Int32) : Option (List Int32 × List Int32 × List Int32) :=
  if ad_op g < g.length then
    if ad_lst g = true ∧ ad_all (g.take (ad_op g)) = true then ad_fin (if ad_op g = 0 then cm else ad_nT false (g.take (ad_op g))) (ad_rt ((g.take (g.length - 1)).drop (ad_op g + 1)))
    else none
  else ad_fin cm g
abbrev adM : Type := (List Int32 × List Int32 × List Int32) × Int32
/-- MAILBOXES with their GROUPS, names of GROUPS, how many BAD, the GROUP now -/
abbrev adT : Type := List adM × List (List Int32) × Nat × Int32
def ad_col (s : adT) (g : Wds) : adT := if s.2.2.2 = -1 then (s.1, s.2.1 ++ [bif ad_all g then ad_nT false g else []], bif ad_all g then s.2.2.1 else s.2.2.1 + 1, nI s.2.1.length) else (s.1, s.2.1, s.2.2.1 + 1, s.2.2.2)
def ad_box (s : adT) (g : Wds) (cm : List Int32) : adT := bif g.isEmpty then s else match ad_mb g cm with
  | some m => (s.1 ++ [(m, s.2.2.2)], s.2.1, s.2.2.1, s.2.2.2)
  | none => (s.1, s.2.1, s.2.2.1 + 1, s.2.2.2)
def ad_end (c : Int32) (s : adT) : adT := if c = 59 then (s.1, s.2.1, s.2.2.1, -1) else s
def ad_take (c : Int32) (s : adT) (g : Wds) (cm : List Int32) : adT := ad_end c (if c = 58 then ad_col s g else ad_box s g cm)
/-- a word ends what is gathered -/
def ad_sep (w : Int32 × Int32 × List Int32) : Bool := wIs w 44 || (wIs w 59 || wIs w 58)
def ad_an1 (an : Bool) (w : Int32 × Int32 × List Int32) : Bool := wIs w 60 || (an && !wIs w 62)
def ad_go : Wds → adT → Wds → List Int32 → Bool → adT
  | [], s, g, cm, _ => ad_take 44 s g cm
  | w :: t, s, g, cm, an =>
    if w.1 = 0 then ad_go t s g (bif g.isEmpty then [] else w.2.2) an
    else bif !an && ad_sep w then ad_go t (ad_take w.2.1 s g cm) [] [] false
    else ad_go t s (g ++ [w]) cm (ad_an1 an w)
def ad_S (W : Wds) : adT := ad_go W ([], [], 0, -1) [] [] false
