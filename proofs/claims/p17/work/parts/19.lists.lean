/-! lists of bytes, and rows that hold them -/
def isNm (b : Int32) : Bool := decide (¬ b < 33 ∧ ¬ 126 < b ∧ ¬ b = 58)
def isBl (b : Int32) : Bool := decide (b = 32 ∨ b = 9)
/-- how many of the first are so -/
def cnt (p : Int32 → Bool) : List Int32 → Nat
  | [] => 0
  | x :: t => if p x = true then cnt p t + 1 else 0
theorem cnt_le (p : Int32 → Bool) : ∀ l : List Int32, cnt p l ≤ l.length
  | [] => Nat.le_refl _
  | x :: t => by
    have := cnt_le p t
    unfold cnt
    split <;> simp <;> omega
theorem cnt_all (p : Int32 → Bool) : ∀ (l : List Int32) (j : Nat) (x : Int32), j < cnt p l → l[j]? = some x → p x = true
  | [], j, x, h, _ => by simp [cnt] at h
  | y :: t, j, x, h, hx => by
    unfold cnt at h
    split at h
    · rename_i hy
      cases j with
      | zero => simp at hx; rw [← hx]; exact hy
      | succ j => exact cnt_all p t j x (by omega) (by simpa using hx)
    · omega
theorem cnt_stop (p : Int32 → Bool) : ∀ (l : List Int32) (x : Int32), l[cnt p l]? = some x → p x = false
  | [], x, h => by simp [cnt] at h
  | y :: t, x, h => by
    unfold cnt at h
    split at h
    · exact cnt_stop p t x (by simpa using h)
    · rename_i hy
      simp at h
      rw [← h]
      simpa using hy
/-- a row holds a list from a place on -/
def hol (f : Nat → Int32) (o : Nat) (xs : List Int32) : Prop := ∀ (j : Nat) (x : Int32), xs[j]? = some x → f (o + j) = x
theorem hol_nil (f : Nat → Int32) (o : Nat) : hol f o [] := fun j x h => by simp at h
theorem hol_cons {f : Nat → Int32} {o : Nat} {x : Int32} {t : List Int32} (h : hol f o (x :: t)) : f o = x ∧ hol f (o + 1) t :=
  ⟨h 0 x rfl, fun j y hy => by have := h (j + 1) y (by simpa using hy); rw [show o + 1 + j = o + (j + 1) by omega]; exact this⟩
theorem hol_drop {f : Nat → Int32} {o : Nat} {xs : List Int32} (h : hol f o xs) (k : Nat) : hol f (o + k) (xs.drop k) := fun j x hx => by
  rw [List.getElem?_drop] at hx
  rw [show o + k + j = o + (k + j) by omega]
  exact h _ x hx
theorem hol_take {f : Nat → Int32} {o : Nat} {xs : List Int32} (h : hol f o xs) (k : Nat) : hol f o (xs.take k) := fun j x hx => by
  rw [List.getElem?_take] at hx
  split at hx
  · exact h j x hx
  · cases hx
theorem hol_app {f : Nat → Int32} {o : Nat} {xs ys : List Int32} (h1 : hol f o xs) (h2 : hol f (o + xs.length) ys) : hol f o (xs ++ ys) := fun j x hx => by
  by_cases hj : j < xs.length
  · rw [List.getElem?_append_left hj] at hx
    exact h1 j x hx
  · rw [List.getElem?_append_right (by omega)] at hx
    have := h2 _ x hx
    rw [show o + j = o + xs.length + (j - xs.length) by omega]
    exact this
theorem hol_left {f : Nat → Int32} {o : Nat} {xs ys : List Int32} (h : hol f o (xs ++ ys)) : hol f o xs := fun j x hx => by
  have hj : j < xs.length := (List.getElem?_eq_some_iff.mp hx).1
  exact h j x (by rw [List.getElem?_append_left hj]; exact hx)
theorem hol_right {f : Nat → Int32} {o : Nat} {xs ys : List Int32} (h : hol f o (xs ++ ys)) : hol f (o + xs.length) ys := fun j x hx => by
  rw [show o + xs.length + j = o + (xs.length + j) by omega]
  exact h _ x (by rw [List.getElem?_append_right (by omega), Nat.add_sub_cancel_left]; exact hx)
theorem hol_at {f : Nat → Int32} {o : Nat} {xs : List Int32} (h : hol f o xs) {j : Nat} (hj : j < xs.length) : xs[j]? = some (f (o + j)) := by
  have e : xs[j]? = some xs[j] := List.getElem?_eq_getElem hj
  rw [e, h j _ e]
theorem hol_same {f g : Nat → Int32} {o : Nat} {xs : List Int32} (h : hol f o xs) (hg : ∀ j, o ≤ j → j < o + xs.length → g j = f j) : hol g o xs := fun j x hx => by
  have hj : j < xs.length := (List.getElem?_eq_some_iff.mp hx).1
  rw [hg _ (by omega) (by omega)]
  exact h j x hx
theorem hol_snoc {f : Nat → Int32} {o : Nat} {xs : List Int32} (h : hol f o xs) (v : Int32) : hol (upd f (o + xs.length) v) o (xs ++ [v]) := by
  refine hol_app (hol_same h (fun j h1 h2 => if_neg (by omega))) (fun j x hx => ?_)
  cases j with
  | zero => simp at hx; rw [← hx]; exact if_pos rfl
  | succ j => simp at hx
theorem hol_of (f : Nat → Int32) (o n : Nat) : hol f o ((List.range n).map (fun j => f (o + j))) := fun j x hx => by
  rw [List.getElem?_map] at hx
  by_cases hj : j < n
  · rw [List.getElem?_range hj] at hx
    exact Option.some.inj hx
  · rw [List.getElem?_eq_none (by simp; omega)] at hx
    cases hx
/-- where the : of a FIELD's line stands -/
def clp (l : List Int32) : Option Nat := if cnt isNm l = 0 then none else if l[cnt isNm l + cnt isBl (l.drop (cnt isNm l))]? = some 58 then some (cnt isNm l + cnt isBl (l.drop (cnt isNm l))) else none
theorem clp_lt {l : List Int32} {c : Nat} (h : clp l = some c) : c < l.length ∧ cnt isNm l ≤ c ∧ 0 < cnt isNm l ∧ l[c]? = some 58 := by
  unfold clp at h
  split at h
  · cases h
  · split at h
    · rename_i h1 h2
      cases h
      exact ⟨(List.getElem?_eq_some_iff.mp h2).1, by omega, by omega, h2⟩
    · cases h
