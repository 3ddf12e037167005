/-! dates: what both sides answer, over the words but comments -/
abbrev Wd : Type := Int32 × Int32 × List Int32
def dv (c : Int32) : Nat := (c - 48).toNatClampNeg
def dgs (l : List Int32) : Bool := l.all (fun c => decide (sp_digit c = 1))
/-- the number that digits tell -/
def nmN : List Int32 → Nat → Nat
  | [], x => x
  | c :: t, x => nmN t (10 * x + dv c)
/-- the same, as the reference tells it: beyond 100000 no further -/
def nmR : List Int32 → Nat → Nat
  | [], x => x
  | c :: t, x => nmR t (if 100000 < x then x else 10 * x + dv c)
/-- digit by digit; -1 where one is none -/
def dgG : List Int32 → Nat → Int32
  | [], x => nI x
  | c :: t, x => if sp_digit c = 1 then dgG t (10 * x + dv c) else -1
def num (a b : Nat) (o : Option Wd) : Option Nat := match o with
  | none => none
  | some w => if w.1 = 4 ∧ a ≤ w.2.2.length ∧ w.2.2.length ≤ b ∧ dgs w.2.2 = true then some (nmN w.2.2 0) else none
def oN (o : Option Nat) : Int32 := match o with
  | none => -1
  | some n => nI n
def th3 (l : List Int32) (a b c : Int32) : Bool := decide (sp_small (rg l 0) = a ∧ sp_small (rg l 1) = b ∧ sp_small (rg l 2) = c)
def fst3 (l : List Int32) : List Int32 → Nat → Int32
  | a :: b :: c :: t, i => if th3 l a b c = true then nI i else fst3 l t (i + 1)
  | _, _ => -1
def mon (o : Option Wd) : Int32 := match o with
  | none => -1
  | some w => if w.1 = 4 then fst3 w.2.2 moL 0 else -1
def yrN (l : List Int32) (x : Nat) : Nat := if l.length = 2 then (if x < 50 then 2000 + x else 1900 + x) else if l.length = 3 then 1900 + x else x
def yrs (o : Option Wd) : Option Nat := match o with
  | none => none
  | some w => (num 2 9 (some w)).map (yrN w.2.2)
def isC (o : Option Wd) (c : Int32) : Bool := match o with
  | none => false
  | some w => wIs w c
def leap (y : Int32) : Bool := decide (y - y / 4 * 4 = 0 ∧ (¬ y - y / 100 * 100 = 0 ∨ y - y / 400 * 400 = 0))
def dOfB (b : Bool) (m : Int32) : Int32 := if m < 0 ∨ 12 ≤ m then 0 else if m = 1 ∧ b = true then 29 else mdL.getD m.toNatClampNeg 0
def dOf (y m : Int32) : Int32 := dOfB (leap y) m
def dayOk (y m d : Int32) : Bool := decide (1900 ≤ y ∧ y ≤ 2999 ∧ 1 ≤ d ∧ d ≤ dOf y m)
def dA (y : Int32) : Int32 := 365 * (y - 1) + (y - 1) / 4 - (y - 1) / 100 + (y - 1) / 400
/-- the days of the first m months -/
def mSmB (b : Bool) : Nat → Int32
  | 0 => 0
  | m + 1 => mSmB b m + dOfB b (nI m)
def mSm (y : Int32) (m : Nat) : Int32 := mSmB (leap y) m
def sgZ (l : List Int32) : Int32 := if (rg l 0 = 43 ∨ rg l 0 = 45) ∧ dgs ((l.drop 1).take 2) = true ∧ dgs ((l.drop 3).take 2) = true ∧ nmN ((l.drop 1).take 2) 0 < 24 ∧ nmN ((l.drop 3).take 2) 0 < 60 then (if rg l 0 = 45 then -(60 * (60 * nI (nmN ((l.drop 1).take 2) 0) + nI (nmN ((l.drop 3).take 2) 0))) else 60 * (60 * nI (nmN ((l.drop 1).take 2) 0) + nI (nmN ((l.drop 3).take 2) 0))) else 0
def zn3 (l : List Int32) : Int32 := if fst3 l znL 0 < 0 then 0 else 3600 * zhL.getD (fst3 l znL 0).toNatClampNeg 0
def zon (o : Option Wd) : Int32 := match o with
  | none => 0
  | some w => if w.1 = 4 then (if w.2.2.length = 3 then zn3 w.2.2 else if w.2.2.length = 5 then sgZ w.2.2 else 0) else 0
def noD : Int64 := -9223372036854775808
def below (a b : Int32) : Bool := decide (0 ≤ a ∧ a < b)
/-- from the numbers on -/
def dRs (dy mo yr hr : Int32) (pa : Bool) (mi se z : Int32) : Int64 := if pa = true ∧ below hr 24 = true ∧ below mi 60 = true ∧ below se 61 = true ∧ dayOk yr mo dy = true then 60 * (60 * (24 * (dA yr - dA 1970 + dy - 1 + mSm yr mo.toNatClampNeg).toInt64 + hr.toInt64) + mi.toInt64) + se.toInt64 - z.toInt64 else noD
def isA (o : Option Wd) : Bool := match o with
  | none => false
  | some w => decide (w.1 = 4)
def wkd (N : Wds) : Nat := if isC N[1]? 44 = true ∧ isA N[0]? = true then 2 else 0
def dtK (N : Wds) (k : Nat) : Int64 := dRs (oN (num 1 2 N[k]?)) (mon N[k + 1]?) (oN (yrs N[k + 2]?)) (oN (num 2 2 N[k + 3]?)) (isC N[k + 4]? 58) (oN (num 2 2 N[k + 5]?)) (if isC N[k + 6]? 58 = true then oN (num 2 2 N[k + 7]?) else 0) (zon (if isC N[k + 6]? 58 = true then N[k + 8]? else N[k + 6]?))
def dvl (l : List Int32) : Int64 := dtK (nc (wcut false l.length l)) (wkd (nc (wcut false l.length l)))
section DSPEC
theorem isA_1 (o : Option Wd) : isA o = true ↔ ∃ w, o = some w ∧ w.1 = 4 := by
  cases o with
  | none => exact ⟨fun z => (by cases z), fun ⟨w, z, _⟩ => (by cases z)⟩
  | some w => exact ⟨fun z => ⟨w, rfl, of_decide_eq_true z⟩, fun ⟨w2, z, z2⟩ => by cases z; exact decide_eq_true z2⟩
theorem dRs_d {mo yr hr mi se z : Int32} {pa : Bool} : dRs (-1) mo yr hr pa mi se z = noD := if_neg (fun q => by have := of_decide_eq_true q.2.2.2.2; exact absurd this.2.2.1 (by decide))
theorem dRs_y {dy mo hr mi se z : Int32} {pa : Bool} : dRs dy mo (-1) hr pa mi se z = noD := if_neg (fun q => by have := of_decide_eq_true q.2.2.2.2; exact absurd this.1 (by decide))
theorem dRs_h {dy mo yr mi se z : Int32} {pa : Bool} : dRs dy mo yr (-1) pa mi se z = noD := if_neg (fun q => by have := of_decide_eq_true q.2.1; exact absurd this.1 (by decide))
theorem dRs_p {dy mo yr hr mi se z : Int32} : dRs dy mo yr hr false mi se z = noD := if_neg (fun q => by cases q.1)
theorem dRs_m {dy mo yr hr se z : Int32} {pa : Bool} : dRs dy mo yr hr pa (-1) se z = noD := if_neg (fun q => by have := of_decide_eq_true q.2.2.1; exact absurd this.1 (by decide))
theorem dRs_s {dy mo yr hr mi z : Int32} {pa : Bool} : dRs dy mo yr hr pa mi (-1) z = noD := if_neg (fun q => by have := of_decide_eq_true q.2.2.2.1; exact absurd this.1 (by decide))
/-- a digit -/
theorem dig_v {c : Int32} (h : sp_digit c = 1) : c - 48 = nI (dv c) ∧ dv c < 10 ∧ sp_dig c = nI (dv c) ∧ sp_dig c ≠ -1 := by
  unfold sp_digit at h
  split at h
  · rename_i hc
    have h48 : ¬ c < 0 := fun z => hc.1 (Int32.lt_trans z (by decide))
    obtain ⟨j, hj, rfl⟩ := nI_of h48
    have a1 : 48 ≤ j := by
      rcases Nat.lt_or_ge j 48 with q | q
      · exact absurd (show nI j < nI 48 from nI_lt q (by decide)) hc.1
      · exact q
    have a2 : j ≤ 57 := by
      rcases Nat.lt_or_ge 57 j with q | q
      · exact absurd (show nI 57 < nI j from nI_lt q hj) hc.2
      · exact q
    have e : nI j - 48 = nI (j - 48) := pk_sub (a := j) (b := 48) a1
    have e2 : dv (nI j) = j - 48 := by unfold dv; rw [e, nI_clamp (by omega)]
    have e3 : sp_dig (nI j) = nI (j - 48) := by unfold sp_dig; rw [if_pos hc, e]
    refine ⟨by rw [e, e2], by omega, by rw [e3, e2], ?_⟩
    rw [e3]
    intro z
    have : ¬ nI (j - 48) < 0 := nI_pos (by omega)
    rw [z] at this
    exact this (by decide)
  · exact absurd h (by decide)
theorem dig_n {c : Int32} (h : ¬ sp_digit c = 1) : sp_dig c = -1 := by
  unfold sp_digit at h
  unfold sp_dig
  split
  · rename_i hc
    rw [if_pos hc] at h
    exact absurd rfl h
  · rfl
theorem digit_01 (c : Int32) : sp_digit c = 1 ∨ sp_digit c = 0 := by
  unfold sp_digit
  split
  · exact Or.inl rfl
  · exact Or.inr rfl
theorem dgG_eq : ∀ (l : List Int32) (x : Nat), dgG l x = if dgs l = true then nI (nmN l x) else -1
  | [], x => rfl
  | c :: t, x => by
    have ih := dgG_eq t (10 * x + dv c)
    by_cases h : sp_digit c = 1
    · have e : dgs (c :: t) = dgs t := by simp [dgs, h]
      rw [dgG, if_pos h, ih, e, nmN]
    · have e : dgs (c :: t) = false := by simp [dgs, h]
      rw [dgG, if_neg h, e]
      rfl
theorem nm_lt : ∀ (l : List Int32) (x : Nat), dgs l = true → nmN l x < (x + 1) * 10 ^ l.length
  | [], x, _ => by simp [nmN]
  | c :: t, x, h => by
    have h1 : sp_digit c = 1 ∧ dgs t = true := by simpa [dgs] using h
    have := nm_lt t (10 * x + dv c) h1.2
    have hd := (dig_v h1.1).2.1
    rw [nmN]
    refine Nat.lt_of_lt_of_le this ?_
    rw [List.length_cons, Nat.pow_succ, Nat.mul_comm (10 ^ t.length) 10, ← Nat.mul_assoc]
    exact Nat.mul_le_mul_right _ (by omega)
theorem nm_ge : ∀ (l : List Int32) (x : Nat), x ≤ nmN l x
  | [], x => Nat.le_refl _
  | c :: t, x => by
    have := nm_ge t (10 * x + dv c)
    rw [nmN]; omega
theorem nmR_top : ∀ (l : List Int32) (x : Nat), 100000 < x → nmR l x = x
  | [], _, _ => rfl
  | c :: t, x, h => by rw [nmR, if_pos h]; exact nmR_top t x h
/-- both tell the same, or both tell too much -/
theorem nmR_eq : ∀ (l : List Int32) (x : Nat), nmR l x = nmN l x ∨ (100000 < nmR l x ∧ 100000 < nmN l x)
  | [], x => Or.inl rfl
  | c :: t, x => by
    by_cases h : 100000 < x
    · refine Or.inr ⟨by rw [nmR_top _ _ h]; exact h, ?_⟩
      have := nm_ge (c :: t) x; omega
    · rw [nmR, if_neg h, nmN]
      exact nmR_eq t (10 * x + dv c)
theorem nmR_le : ∀ (l : List Int32) (x : Nat), dgs l = true → x ≤ 1000009 → nmR l x ≤ 1000009
  | [], _, _, h => h
  | c :: t, x, hd, h => by
    have h1 : sp_digit c = 1 ∧ dgs t = true := by simpa [dgs] using hd
    have := (dig_v h1.1).2.1
    rw [nmR]
    by_cases q : 100000 < x
    · rw [if_pos q]; exact nmR_le t _ h1.2 h
    · rw [if_neg q]; exact nmR_le t _ h1.2 (by omega)
/-- up to four digits there is no difference -/
theorem nmR_four {l : List Int32} (hd : dgs l = true) (hl : l.length ≤ 4) : nmR l 0 = nmN l 0 := by
  rcases nmR_eq l 0 with q | q
  · exact q
  · have h1 := nm_lt l 0 hd
    have h2 : 10 ^ l.length ≤ 10 ^ 4 := Nat.pow_le_pow_right (by decide) hl
    omega
end DSPEC
