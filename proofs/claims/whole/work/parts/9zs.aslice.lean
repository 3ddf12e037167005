/-! slices of the words -/
def ad_sl (W : Wds) (a b : Nat) : Wds := (W.take b).drop a
theorem sl_nil {W : Wds} {a b : Nat} (h : b ≤ a) : ad_sl W a b = [] := by
  unfold ad_sl
  rw [List.drop_eq_nil_iff, List.length_take]
  omega
theorem sl_len {W : Wds} {a b : Nat} (hb : b ≤ W.length) : (ad_sl W a b).length = b - a := by
  unfold ad_sl
  rw [List.length_drop, List.length_take]
  omega
theorem sl_cut {W : Wds} {a m b : Nat} (h1 : a ≤ m) (h2 : m ≤ b) (hb : b ≤ W.length) : ad_sl W a b = ad_sl W a m ++ ad_sl W m b := by
  unfold ad_sl
  have e : W.take m = (W.take b).take m := by rw [List.take_take, Nat.min_eq_left h2]
  rw [e]
  have e3 : (W.take b).drop a = ((W.take b).take m ++ (W.take b).drop m).drop a := by rw [List.take_append_drop]
  rw [e3, List.drop_append_of_le_length (by rw [List.length_take, List.length_take]; omega)]
theorem sl_one {W : Wds} {k : Nat} {w : Int32 × Int32 × List Int32} (h : W[k]? = some w) : ad_sl W k (k + 1) = [w] := by
  obtain ⟨hk, e⟩ := List.getElem?_eq_some_iff.mp h
  unfold ad_sl
  rw [List.take_succ_eq_append_getElem hk, e, List.drop_append_of_le_length (by rw [List.length_take]; omega), List.drop_eq_nil_of_le (by rw [List.length_take]; omega)]
  rfl
theorem sl_snoc {W : Wds} {a k : Nat} {w : Int32 × Int32 × List Int32} (hak : a ≤ k) (h : W[k]? = some w) : ad_sl W a (k + 1) = ad_sl W a k ++ [w] := by
  have hk := (List.getElem?_eq_some_iff.mp h).1
  rw [sl_cut hak (Nat.le_succ k) hk, sl_one h]
theorem sl_step {W : Wds} {a b : Nat} {w : Int32 × Int32 × List Int32} (hab : a < b) (hb : b ≤ W.length) (h : W[a]? = some w) : ad_sl W a b = w :: ad_sl W (a + 1) b := by
  rw [sl_cut (Nat.le_succ a) hab hb, sl_one h]
  rfl
theorem sl_mem {W : Wds} {a b : Nat} {x : Int32 × Int32 × List Int32} (h : x ∈ ad_sl W a b) : ∃ c, a ≤ c ∧ c < b ∧ W[c]? = some x := by
  unfold ad_sl at h
  obtain ⟨i, hi⟩ := List.mem_iff_getElem?.mp h
  rw [List.getElem?_drop, List.getElem?_take] at hi
  split at hi
  · rename_i q
    exact ⟨a + i, Nat.le_add_right _ _, q, hi⟩
  · cases hi
theorem nc_app (A B : Wds) : nc (A ++ B) = nc A ++ nc B := by simp [nc]
theorem nc_mem {l : Wds} {x : Int32 × Int32 × List Int32} (h : x ∈ nc l) : x ∈ l := by
  unfold nc at h
  exact (List.mem_filter.mp h).1
theorem cc_take : ∀ l : Wds, nc (l.take (cc l)) = []
  | [] => rfl
  | w :: t => by
    by_cases h : w.1 = 0
    · rw [show cc (w :: t) = cc t + 1 from if_pos h, List.take_succ_cons, nc_cons, if_pos h]
      exact cc_take t
    · rw [show cc (w :: t) = 0 from if_neg h]
      rfl
theorem nx_sl {W : Wds} {a b : Nat} (hab : a ≤ b) (hb : b ≤ W.length) : nc (ad_sl W a (nx W a b)) = [] ∧ nc (ad_sl W a b) = nc (ad_sl W (nx W a b) b) := by
  have h1 := nx_ge W a b
  have h2 := nx_le W hab hb
  have e0 := sl_cut h1 h2 hb
  have el : cc (ad_sl W a b) = (ad_sl W a (nx W a b)).length := by
    rw [sl_len (by omega)]
    unfold nx ad_sl
    omega
  have e1 : ∀ c, c = (ad_sl W a (nx W a b)).length → (ad_sl W a b).take c = ad_sl W a (nx W a b) := by
    intro c hc
    rw [e0, hc, List.take_left]
  have e2 : nc (ad_sl W a (nx W a b)) = [] := by
    rw [← e1 _ el]
    exact cc_take _
  refine ⟨e2, ?_⟩
  rw [e0, nc_app, e2, List.nil_append]
theorem nx_lt {W : Wds} {a b : Nat} (hab : a ≤ b) (hb : b ≤ W.length) (h : nx W a b < b) : ∃ w, W[nx W a b]? = some w ∧ ¬ w.1 = 0 ∧ nc (ad_sl W a b) = w :: nc (ad_sl W (nx W a b + 1) b) := by
  have qk : W[nx W a b]? = some (W[nx W a b]'(by omega)) := List.getElem?_eq_getElem (by omega)
  refine ⟨_, qk, nx_nc h qk, ?_⟩
  rw [(nx_sl hab hb).2, sl_step h hb qk, nc_cons, if_neg (nx_nc h qk)]
theorem nx_no {W : Wds} {a b : Nat} (hab : a ≤ b) (hb : b ≤ W.length) (h : ¬ nx W a b < b) : nc (ad_sl W a b) = [] := by
  have h2 := nx_le W hab hb
  have e : nx W a b = b := by omega
  have h3 := (nx_sl hab hb).1
  rw [e] at h3
  exact h3
theorem nx_iff {W : Wds} {a b : Nat} (hab : a ≤ b) (hb : b ≤ W.length) : nx W a b = b ↔ nc (ad_sl W a b) = [] := by
  constructor
  · intro h
    exact nx_no hab hb (by omega)
  · intro h
    have h2 := nx_le W hab hb
    rcases Nat.lt_or_ge (nx W a b) b with q | q
    · obtain ⟨w, -, -, e⟩ := nx_lt hab hb q
      rw [e] at h
      cases h
    · omega
/-- the last comment behind the first word -/
def ad_lc (d : List Int32) : Wds → List Int32
  | [] => d
  | w :: t => ad_lc (if w.1 = 0 then w.2.2 else d) t
def ad_cm (l : Wds) : List Int32 := ad_lc [] (l.drop (cc l + 1))
theorem ad_lc_snoc : ∀ (l : Wds) (d : List Int32) (w : Int32 × Int32 × List Int32), ad_lc d (l ++ [w]) = if w.1 = 0 then w.2.2 else ad_lc d l
  | [], _, _ => rfl
  | x :: l, d, w => by
    rw [List.cons_append, ad_lc, ad_lc]
    exact ad_lc_snoc l _ w
theorem cc_all : ∀ l : Wds, nc l = [] → cc l = l.length
  | [], _ => rfl
  | w :: t, h => by
    rw [nc_cons] at h
    by_cases h0 : w.1 = 0
    · rw [if_pos h0] at h
      rw [show cc (w :: t) = cc t + 1 from if_pos h0, cc_all t h]
      rfl
    · rw [if_neg h0] at h
      cases h
theorem cc_ge : ∀ l r : Wds, nc l = [] → l.length ≤ cc (l ++ r)
  | [], _, _ => Nat.zero_le _
  | w :: t, r, h => by
    rw [nc_cons] at h
    by_cases h0 : w.1 = 0
    · rw [if_pos h0] at h
      rw [List.cons_append, show cc (w :: (t ++ r)) = cc (t ++ r) + 1 from if_pos h0]
      have := cc_ge t r h
      rw [List.length_cons]
      omega
    · rw [if_neg h0] at h
      cases h
theorem cc_app : ∀ l r : Wds, ¬ nc l = [] → cc (l ++ r) = cc l ∧ cc l < l.length
  | [], _, h => absurd rfl h
  | w :: t, r, h => by
    rw [nc_cons] at h
    by_cases h0 : w.1 = 0
    · rw [if_pos h0] at h
      obtain ⟨h1, h2⟩ := cc_app t r h
      rw [List.cons_append, show cc (w :: (t ++ r)) = cc (t ++ r) + 1 from if_pos h0, show cc (w :: t) = cc t + 1 from if_pos h0, h1, List.length_cons]
      exact ⟨rfl, by omega⟩
    · rw [List.cons_append, show cc (w :: (t ++ r)) = 0 from if_neg h0, show cc (w :: t) = 0 from if_neg h0, List.length_cons]
      exact ⟨rfl, by omega⟩
theorem cm_snoc (l : Wds) (w : Int32 × Int32 × List Int32) : ad_cm (l ++ [w]) = if w.1 = 0 then (bif (nc l).isEmpty then [] else w.2.2) else ad_cm l := by
  unfold ad_cm
  by_cases h : nc l = []
  · have e1 := cc_all l h
    have e4 := cc_ge l [w] h
    rw [h]
    have e2 : l.drop (cc l + 1) = [] := List.drop_eq_nil_of_le (by omega)
    have e3 : (l ++ [w]).drop (cc (l ++ [w]) + 1) = [] := List.drop_eq_nil_of_le (by rw [List.length_append, List.length_singleton]; omega)
    rw [e2, e3]
    by_cases h0 : w.1 = 0
    · rw [if_pos h0]; rfl
    · rw [if_neg h0]
  · obtain ⟨c1, c2⟩ := cc_app l [w] h
    rw [c1, List.drop_append_of_le_length (by omega), ad_lc_snoc]
    cases hq : nc l with
    | nil => exact absurd hq h
    | cons _ _ => rfl
theorem cm_nil : ad_cm [] = [] := rfl
/-- within < > behind these words -/
def ad_an (l : Wds) : Bool := l.foldl ad_an1 false
theorem an_snoc (l : Wds) (w : Int32 × Int32 × List Int32) : ad_an (l ++ [w]) = ad_an1 (ad_an l) w := by simp [ad_an, List.foldl_append]
theorem wIs_0 {w : Int32 × Int32 × List Int32} (h : w.1 = 0) (c : Int32) : wIs w c = false := by
  unfold wIs
  rw [h]
  exact decide_eq_false (fun z => absurd z.1 (by decide))
theorem wIs_4 {w : Int32 × Int32 × List Int32} (h : w.1 = 4) (c : Int32) : wIs w c = false := by
  unfold wIs
  rw [h]
  exact decide_eq_false (fun z => absurd z.1 (by decide))
theorem wIs_1 {w : Int32 × Int32 × List Int32} (h : w.1 = 1) (c : Int32) : wIs w c = false := by
  unfold wIs
  rw [h]
  exact decide_eq_false (fun z => absurd z.1 (by decide))
theorem wIs_2 {w : Int32 × Int32 × List Int32} (h : w.1 = 2) (c : Int32) : wIs w c = false := by
  unfold wIs
  rw [h]
  exact decide_eq_false (fun z => absurd z.1 (by decide))
theorem an_0 {w : Int32 × Int32 × List Int32} (h : w.1 = 0) (b : Bool) : ad_an1 b w = b := by
  unfold ad_an1
  rw [wIs_0 h, wIs_0 h]
  cases b <;> rfl
theorem an_nc : ∀ (l : Wds) (b : Bool), l.foldl ad_an1 b = (nc l).foldl ad_an1 b
  | [], _ => rfl
  | w :: t, b => by
    rw [nc_cons]
    by_cases h : w.1 = 0
    · rw [if_pos h, List.foldl_cons, an_0 h]
      exact an_nc t b
    · rw [if_neg h, List.foldl_cons, List.foldl_cons]
      exact an_nc t _
theorem an_no60 : ∀ l : Wds, (∀ w ∈ l, wIs w 60 = false) → l.foldl ad_an1 false = false
  | [], _ => rfl
  | w :: t, h => by
    rw [List.foldl_cons, show ad_an1 false w = false by unfold ad_an1; rw [h w List.mem_cons_self]; rfl]
    exact an_no60 t (fun x hx => h x (List.mem_cons_of_mem _ hx))
theorem an_no62 : ∀ l : Wds, (∀ w ∈ l, wIs w 62 = false) → l.foldl ad_an1 true = true
  | [], _ => rfl
  | w :: t, h => by
    rw [List.foldl_cons, show ad_an1 true w = true by unfold ad_an1; rw [h w List.mem_cons_self]; cases wIs w 60 <;> rfl]
    exact an_no62 t (fun x hx => h x (List.mem_cons_of_mem _ hx))
theorem op_le : ∀ g : Wds, ad_op g ≤ g.length
  | [] => Nat.le_refl _
  | w :: t => by
    have := op_le t
    rw [ad_op]
    cases wIs w 60
    · simp only [cond_false, List.length_cons]; omega
    · exact Nat.zero_le _
theorem op_none : ∀ A : Wds, (∀ x ∈ A, wIs x 60 = false) → ad_op A = A.length
  | [], _ => rfl
  | w :: t, h => by
    rw [ad_op, h w List.mem_cons_self, cond_false, op_none t (fun x hx => h x (List.mem_cons_of_mem _ hx))]
    rfl
theorem op_all : ∀ A : Wds, ad_op A = A.length → ∀ x ∈ A, wIs x 60 = false
  | [], _, x, hx => by cases hx
  | w :: t, h, x, hx => by
    rw [ad_op] at h
    cases hw : wIs w 60 with
    | true => rw [hw] at h; simp at h
    | false =>
      rw [hw, cond_false, List.length_cons] at h
      rcases List.mem_cons.mp hx with e | e
      · rw [e]; exact hw
      · exact op_all t (by omega) x e
theorem op_app : ∀ (A : Wds) (w : Int32 × Int32 × List Int32) (B : Wds), (∀ x ∈ A, wIs x 60 = false) → wIs w 60 = true → ad_op (A ++ w :: B) = A.length
  | [], w, B, _, hw => by
    rw [List.nil_append, ad_op, hw]
    rfl
  | y :: A, w, B, h, hw => by
    rw [List.cons_append, ad_op, h y List.mem_cons_self, cond_false, op_app A w B (fun x hx => h x (List.mem_cons_of_mem _ hx)) hw]
    rfl
theorem lst_app (l : Wds) (w : Int32 × Int32 × List Int32) : ad_lst (l ++ [w]) = wIs w 62 := by
  unfold ad_lst
  rw [List.length_append, List.length_singleton, Nat.add_sub_cancel, List.getElem?_append_right (Nat.le_refl _), Nat.sub_self]
  rfl
theorem wIs_2c {w : Int32 × Int32 × List Int32} {c d : Int32} (h : wIs w c = true) (hcd : ¬ c = d) : wIs w d = false := wIs_ne h hcd
/-- within < > at the end: no mailbox -/
theorem mb_open {g : Wds} (cm : List Int32) (h : ad_an g = true) : ad_mb g cm = none := by
  have h1 : ad_op g < g.length := by
    have := op_le g
    rcases Nat.lt_or_ge (ad_op g) g.length with q | q
    · exact q
    · have h2 := an_no60 g (op_all g (by omega))
      unfold ad_an at h
      rw [h] at h2
      cases h2
  have h3 : ad_lst g = false := by
    have hne : g ≠ [] := fun z => by rw [z] at h1; simp at h1
    obtain ⟨l, w, e⟩ : ∃ l w, g = l ++ [w] := ⟨g.dropLast, g.getLast hne, (List.dropLast_concat_getLast hne).symm⟩
    rw [e, an_snoc] at h
    rw [e, lst_app]
    cases hw : wIs w 62 with
    | false => rfl
    | true =>
      unfold ad_an1 at h
      rw [hw, wIs_ne hw (by decide)] at h
      cases hx : ad_an l <;> rw [hx] at h <;> cases h
  unfold ad_mb
  rw [if_pos h1, if_neg (fun z => by rw [h3] at z; cases z.1)]
/-- not within < > at the end: each < has its > -/
theorem an_close {W : Wds} {a b : Nat} (hb : b ≤ W.length) (h : ad_an (ad_sl W a b) = false) {o : Nat} {w : Int32 × Int32 × List Int32} (ho1 : a ≤ o) (ho2 : o < b) (qo : W[o]? = some w) (hw : wIs w 60 = true) : ∃ c w', o < c ∧ c < b ∧ W[c]? = some w' ∧ wIs w' 62 = true := by
  have e1 := sl_cut (W := W) (a := a) (m := o) (b := b) ho1 (by omega) hb
  rw [sl_step ho2 hb qo] at e1
  have e2 : (ad_sl W (o + 1) b).foldl ad_an1 true = false := by
    have : ad_an (ad_sl W a b) = (ad_sl W (o + 1) b).foldl ad_an1 (ad_an1 (ad_an (ad_sl W a o)) w) := by
      rw [e1]
      simp [ad_an, List.foldl_append]
    rw [this, show ∀ z, ad_an1 z w = true from fun z => by unfold ad_an1; rw [hw]; rfl] at h
    exact h
  have hex : ∃ x ∈ ad_sl W (o + 1) b, wIs x 62 = true := by
    refine Classical.byContradiction (fun z => ?_)
    have h3 := an_no62 (ad_sl W (o + 1) b) (fun x hx => by
      cases hq : wIs x 62 with
      | false => rfl
      | true => exact absurd ⟨x, hx, hq⟩ z)
    rw [h3] at e2
    cases e2
  obtain ⟨x, hx, hq⟩ := hex
  obtain ⟨c, c1, c2, c3⟩ := sl_mem hx
  exact ⟨c, x, by omega, c2, c3, hq⟩
/-- a > in what stands between < and the last >: no SPEC -/
theorem rR_mem (q : Bool) : ∀ (s : Wds) (x : Int32 × Int32 × List Int32), x ∈ s.take (ad_rR q s) → wIs x 62 = false
  | [], x, h => by simp [ad_rR] at h
  | [y], x, h => by simp [ad_rR] at h
  | d :: w :: t, x, h => by
    rw [ad_rR] at h
    cases hq : wIs d 46 && ad_rw q w with
    | false => rw [hq] at h; simp at h
    | true =>
      rw [hq, cond_true, List.take_succ_cons, List.take_succ_cons] at h
      rw [Bool.and_eq_true] at hq
      rcases List.mem_cons.mp h with e | h
      · rw [e]; exact wIs_ne hq.1 (by decide)
      · rcases List.mem_cons.mp h with e | h
        · rw [e]
          have h2 := hq.2
          unfold ad_rw at h2
          rw [Bool.or_eq_true, Bool.and_eq_true, decide_eq_true_eq, decide_eq_true_eq] at h2
          rcases h2 with h2 | ⟨-, h2⟩
          · exact wIs_4 h2 _
          · exact wIs_1 h2 _
        · exact rR_mem q t x h
theorem rE_mem (q : Bool) : ∀ (s : Wds) (x : Int32 × Int32 × List Int32), x ∈ s.take (ad_rE q s) → wIs x 62 = false
  | [], x, h => by simp [ad_rE] at h
  | w :: t, x, h => by
    rw [ad_rE] at h
    cases hq : ad_rw q w with
    | false => rw [hq] at h; simp at h
    | true =>
      rw [hq, cond_true, List.take_succ_cons] at h
      rcases List.mem_cons.mp h with e | h
      · rw [e]
        unfold ad_rw at hq
        rw [Bool.or_eq_true, Bool.and_eq_true, decide_eq_true_eq, decide_eq_true_eq] at hq
        rcases hq with h2 | ⟨-, h2⟩
        · exact wIs_4 h2 _
        · exact wIs_1 h2 _
      · exact rR_mem q t x h
theorem dom_mem {d : Wds} {x : Int32 × Int32 × List Int32} (h : ad_dom d = true) (hx : x ∈ d) : wIs x 62 = false := by
  cases d with
  | nil => cases hx
  | cons w t =>
    rw [ad_dom] at h
    by_cases h2 : w.1 = 2
    · rw [if_pos h2] at h
      have : t = [] := by simpa using h
      subst this
      rw [List.mem_singleton.mp hx]
      exact wIs_2 h2 _
    · rw [if_neg h2] at h
      have e := of_decide_eq_true h
      refine rE_mem false (w :: t) x ?_
      rw [e, List.take_of_length_le (by simp)]
      exact hx
theorem spc_62 {s : Wds} {x : Int32 × Int32 × List Int32} (hx : x ∈ s) (h : wIs x 62 = true) : ad_spc s = none := by
  unfold ad_spc
  by_cases h0 : ad_rE true s = 0
  · rw [if_pos h0]
  · rw [if_neg h0]
    have hs := List.take_append_drop (ad_rE true s) s
    have hx2 : x ∈ s.take (ad_rE true s) ∨ x ∈ s.drop (ad_rE true s) := by
      rw [← hs] at hx
      exact List.mem_append.mp hx
    have hx3 : x ∈ s.drop (ad_rE true s) := by
      rcases hx2 with q | q
      · rw [rE_mem true s x q] at h; cases h
      · exact q
    cases hd : s.drop (ad_rE true s) with
    | nil => rw [hd] at hx3; cases hx3
    | cons w d =>
      rw [hd] at hx3
      cases hq : wIs w 64 && ad_dom d with
      | false => simp [hq]
      | true =>
        rw [Bool.and_eq_true] at hq
        rcases List.mem_cons.mp hx3 with e | e
        · rw [e, wIs_ne hq.1 (by decide)] at h; cases h
        · rw [dom_mem hq.2 e] at h; cases h
theorem rN_mem : ∀ (s : Wds) (n : Nat) (x : Int32 × Int32 × List Int32), ad_rN s = some n → x ∈ s → wIs x 62 = true → x ∈ s.drop n
  | [], n, x, h, hx, _ => by cases hx
  | w :: t, n, x, h, hx, h62 => by
    rw [ad_rN] at h
    cases h58 : wIs w 58 with
    | true =>
      rw [h58, cond_true] at h
      cases h
      rcases List.mem_cons.mp hx with e | e
      · rw [e, wIs_ne h58 (by decide)] at h62; cases h62
      · exact e
    | false =>
      rw [h58, cond_false] at h
      cases hq : decide (w.1 = 4) || (wIs w 64 || (wIs w 44 || wIs w 46)) with
      | false => rw [hq] at h; cases h
      | true =>
        rw [hq, cond_true] at h
        cases hn : ad_rN t with
        | none => rw [hn] at h; cases h
        | some m =>
          rw [hn] at h
          cases h
          have hne : wIs w 62 = false := by
            rw [Bool.or_eq_true, Bool.or_eq_true, Bool.or_eq_true, decide_eq_true_eq] at hq
            rcases hq with q | q | q | q
            · exact wIs_4 q _
            · exact wIs_ne q (by decide)
            · exact wIs_ne q (by decide)
            · exact wIs_ne q (by decide)
          rcases List.mem_cons.mp hx with e | e
          · rw [e, hne] at h62; cases h62
          · exact rN_mem t m x hn e h62
theorem rt_62 {s : Wds} {x : Int32 × Int32 × List Int32} (hx : x ∈ s) (h : wIs x 62 = true) : ad_spc (ad_rt s) = none := by
  refine spc_62 (x := x) ?_ h
  unfold ad_rt
  cases hn : ad_rN s with
  | none => exact hx
  | some n => exact rN_mem s n x hn hx h
/-- a mailbox with < and >, and nothing behind it -/
theorem mb_good {A N2 : Wds} {w w' : Int32 × Int32 × List Int32} (cm : List Int32) (hA : ∀ x ∈ A, wIs x 60 = false) (hw : wIs w 60 = true) (hw' : wIs w' 62 = true) (hall : ad_all A = true) : ad_mb (A ++ w :: (N2 ++ [w'])) cm = ad_fin (if A.length = 0 then cm else ad_nT false A) (ad_rt N2) := by
  have e1 := op_app A w (N2 ++ [w']) hA hw
  have e2 : (A ++ w :: (N2 ++ [w'])) = (A ++ w :: N2) ++ [w'] := by simp
  have e3 : ad_lst (A ++ w :: (N2 ++ [w'])) = true := by rw [e2, lst_app]; exact hw'
  have e4 : (A ++ w :: (N2 ++ [w'])).take A.length = A := List.take_left
  have e5 : ((A ++ w :: (N2 ++ [w'])).take ((A ++ w :: (N2 ++ [w'])).length - 1)).drop (A.length + 1) = N2 := by
    have hl : (A ++ w :: (N2 ++ [w'])).length - 1 = (A ++ w :: N2).length := by simp
    rw [hl, e2, List.take_left, show A ++ w :: N2 = (A ++ [w]) ++ N2 by simp, show A.length + 1 = (A ++ [w]).length by simp, List.drop_left]
  unfold ad_mb
  rw [e1, e3, e4, e5, if_pos (by simp), if_pos ⟨rfl, hall⟩]
theorem mb_bad1 {A B : Wds} {w : Int32 × Int32 × List Int32} (cm : List Int32) (hA : ∀ x ∈ A, wIs x 60 = false) (hw : wIs w 60 = true) (hall : ad_all A = false) : ad_mb (A ++ w :: B) cm = none := by
  have e1 := op_app A w B hA hw
  have e4 : (A ++ w :: B).take A.length = A := List.take_left
  unfold ad_mb
  rw [e1, e4, if_pos (by simp), if_neg (fun z => by rw [hall] at z; cases z.2)]
theorem mb_bad2 {A N2 N3 : Wds} {w w' : Int32 × Int32 × List Int32} (cm : List Int32) (hA : ∀ x ∈ A, wIs x 60 = false) (hw : wIs w 60 = true) (hw' : wIs w' 62 = true) (hN : ¬ N3 = []) : ad_mb (A ++ w :: (N2 ++ w' :: N3)) cm = none := by
  have e1 := op_app A w (N2 ++ w' :: N3) hA hw
  unfold ad_mb
  rw [e1, if_pos (by simp)]
  split
  · unfold ad_fin
    rw [rt_62 (x := w') ?_ hw']
    · rfl
    · have e2 : N3 = N3.dropLast ++ [N3.getLast hN] := (List.dropLast_concat_getLast hN).symm
      generalize N3.dropLast = L at e2
      generalize N3.getLast hN = z at e2
      subst e2
      have hl : (A ++ w :: (N2 ++ w' :: (L ++ [z]))).length - 1 = (A ++ w :: (N2 ++ w' :: L)).length := by simp; omega
      have e3 : A ++ w :: (N2 ++ w' :: (L ++ [z])) = (A ++ w :: (N2 ++ w' :: L)) ++ [z] := by simp
      rw [hl, e3, List.take_left, show A ++ w :: (N2 ++ w' :: L) = (A ++ [w]) ++ (N2 ++ w' :: L) by simp, show A.length + 1 = (A ++ [w]).length by simp, List.drop_left]
      simp
  · rfl
theorem mb_plain {A : Wds} (cm : List Int32) (hA : ∀ x ∈ A, wIs x 60 = false) : ad_mb A cm = ad_fin cm A := by
  unfold ad_mb
  rw [op_none A hA, if_neg (Nat.lt_irrefl _)]
theorem go_dr {W : Wds} {k : Nat} {w : Int32 × Int32 × List Int32} (h : W[k]? = some w) : W.drop k = w :: W.drop (k + 1) := by
  obtain ⟨hk, e⟩ := List.getElem?_eq_some_iff.mp h
  rw [← e, List.getElem_cons_drop]
/-- one step more of the words -/
theorem go_0 {W : Wds} {a k : Nat} {w : Int32 × Int32 × List Int32} (hak : a ≤ k) (qk : W[k]? = some w) (s : adT) (h0 : w.1 = 0) : ad_go (W.drop k) s (nc (ad_sl W a k)) (ad_cm (ad_sl W a k)) (ad_an (ad_sl W a k)) = ad_go (W.drop (k + 1)) s (nc (ad_sl W a (k + 1))) (ad_cm (ad_sl W a (k + 1))) (ad_an (ad_sl W a (k + 1))) := by
  rw [go_dr qk, ad_go, if_pos h0, sl_snoc hak qk, nc_app, cm_snoc, if_pos h0, an_snoc, an_0 h0, show nc [w] = [] by rw [nc_cons, if_pos h0]; rfl, List.append_nil]
theorem go_s {W : Wds} {a k : Nat} {w : Int32 × Int32 × List Int32} (qk : W[k]? = some w) (s : adT) (h0 : ¬ w.1 = 0) (han : ad_an (ad_sl W a k) = false) (hsep : ad_sep w = true) : ad_go (W.drop k) s (nc (ad_sl W a k)) (ad_cm (ad_sl W a k)) (ad_an (ad_sl W a k)) = ad_go (W.drop (k + 1)) (ad_take w.2.1 s (nc (ad_sl W a k)) (ad_cm (ad_sl W a k))) (nc (ad_sl W (k + 1) (k + 1))) (ad_cm (ad_sl W (k + 1) (k + 1))) (ad_an (ad_sl W (k + 1) (k + 1))) := by
  rw [go_dr qk, ad_go, if_neg h0, han, hsep, sl_nil (Nat.le_refl (k + 1))]
  rfl
theorem go_w {W : Wds} {a k : Nat} {w : Int32 × Int32 × List Int32} (hak : a ≤ k) (qk : W[k]? = some w) (s : adT) (h0 : ¬ w.1 = 0) (hn : (!ad_an (ad_sl W a k) && ad_sep w) = false) : ad_go (W.drop k) s (nc (ad_sl W a k)) (ad_cm (ad_sl W a k)) (ad_an (ad_sl W a k)) = ad_go (W.drop (k + 1)) s (nc (ad_sl W a (k + 1))) (ad_cm (ad_sl W a (k + 1))) (ad_an (ad_sl W a (k + 1))) := by
  rw [go_dr qk, ad_go, if_neg h0, hn, cond_false, sl_snoc hak qk, nc_app, cm_snoc, if_neg h0, an_snoc, show nc [w] = [w] by rw [nc_cons, if_neg h0]; rfl]
