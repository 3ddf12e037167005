/-! dates: the reference's answer is the class's -/
def dyR (o : Option Nat) : Int32 := match o with
  | none => 0
  | some n => nI n
def rV (d : Int32) (mo y : Nat) (hh mi s z : Int32) : Int64 := rDn d mo y * 86400 + 3600 * hh.toInt64 + 60 * mi.toInt64 + s.toInt64 - z.toInt64
def tS3 (d : Int32) (mo y : Nat) (hh mi : Int32) (N : Wds) (k : Nat) : Int64 := if (if isC N[k]? 58 = true then two 61 N[k + 1]? else 0) < 0 then noD else rV d mo y hh mi (if isC N[k]? 58 = true then two 61 N[k + 1]? else 0) (zon (if isC N[k]? 58 = true then N[k + 2]? else N[k]?))
def tS2 (d : Int32) (mo y : Nat) (N : Wds) (k : Nat) : Int64 := if two 24 N[k]? < 0 ∨ isC N[k + 1]? 58 = false ∨ two 60 N[k + 2]? < 0 then noD else tS3 d mo y (two 24 N[k]?) (two 60 N[k + 2]?) N (k + 3)
def tS1 (N : Wds) (k : Nat) : Int64 := if dyR (num 1 2 N[k]?) < 1 ∨ mon N[k + 1]? + 1 < 1 ∨ yrR N[k + 2]? < 1900 ∨ 2999 < yrR N[k + 2]? ∨ dRf (mon N[k + 1]? + 1) (yrR N[k + 2]?) < dyR (num 1 2 N[k]?) then noD else tS2 (dyR (num 1 2 N[k]?)) (mon N[k + 1]? + 1).toNatClampNeg (yrR N[k + 2]?).toNatClampNeg N (k + 3)
section DPURE
theorem num_lt {a b : Nat} {o : Option Wd} {x : Nat} (h : num a b o = some x) : x < 10 ^ b := by
  cases o with
  | none => cases h
  | some w =>
    unfold num at h
    simp only at h
    split at h
    · rename_i q
      cases h
      have h1 := nm_lt w.2.2 0 q.2.2.2
      have h2 : 10 ^ w.2.2.length ≤ 10 ^ b := Nat.pow_le_pow_right (by decide) q.2.2.1
      omega
    · cases h
theorem two_cases (b : Nat) (hb : b < 2 ^ 30) (o : Option Wd) : (two b o < 0 ∧ below (oN (num 2 2 o)) (nI b) = false) ∨ (two b o = oN (num 2 2 o) ∧ ¬ two b o < 0 ∧ below (oN (num 2 2 o)) (nI b) = true) := by
  unfold two
  cases h : num 2 2 o with
  | none => exact Or.inl ⟨show (-1 : Int32) < 0 by decide, decide_eq_false (fun z => absurd z.1 (show ¬ (0 : Int32) ≤ -1 by decide))⟩
  | some x =>
    have hx : x < 100 := num_lt h
    simp only
    by_cases q : x < b
    · rw [if_pos q]
      exact Or.inr ⟨rfl, nI_pos (by omega), decide_eq_true ⟨nI_pos' (by omega), nI_lt q (by omega)⟩⟩
    · rw [if_neg q]
      exact Or.inl ⟨by decide, decide_eq_false (fun z => absurd z.2 (nI_nlt (by omega) (by omega)))⟩
theorem dRs_no {dy mo yr hr mi se z : Int32} {pa : Bool} (h : ¬ (pa = true ∧ below hr (nI 24) = true ∧ below mi (nI 60) = true ∧ below se (nI 61) = true ∧ dayOk yr mo dy = true)) : dRs dy mo yr hr pa mi se z = noD := if_neg h
theorem dRs_yes {dy yr hr mi se z : Int32} {j : Nat} (hj : j < 12) (h2 : below hr (nI 24) = true) (h3 : below mi (nI 60) = true) (h4 : below se (nI 61) = true) (h5 : dayOk yr (nI j) dy = true) : dRs dy (nI j) yr hr true mi se z = 60 * (60 * (24 * (dA yr - dA 1970 + dy - 1 + mSm yr j).toInt64 + hr.toInt64) + mi.toInt64) + se.toInt64 - z.toInt64 := by
  unfold dRs
  rw [if_pos ⟨rfl, h2, h3, h4, h5⟩, nI_clamp (by omega)]
/-- the year on either side: the same, or too much on both -/
theorem yr_cases (o : Option Wd) : (yrs o = none ∧ yrR o = -1) ∨ ∃ n m : Nat, yrs o = some n ∧ yrR o = nI m ∧ n < 2 ^ 31 ∧ m < 2 ^ 31 ∧ (n = m ∨ (2999 < n ∧ 2999 < m)) := by
  cases o with
  | none => exact Or.inl ⟨rfl, rfl⟩
  | some w =>
    unfold yrs yrR
    simp only
    cases h : num 2 9 (some w) with
    | none => exact Or.inl ⟨rfl, rfl⟩
    | some x =>
      have hx := num_lt h
      have hd : dgs w.2.2 = true ∧ nmN w.2.2 0 = x := by
        unfold num at h
        simp only at h
        split at h
        · rename_i q
          cases h
          exact ⟨q.2.2.2, rfl⟩
        · cases h
      have hr := nmR_le w.2.2 0 hd.1 (by decide)
      have hy : ∀ v : Nat, v ≤ yrN w.2.2 v ∧ yrN w.2.2 v ≤ 2000 + v := by
        intro v
        unfold yrN
        split
        · split <;> omega
        · split <;> omega
      refine Or.inr ⟨yrN w.2.2 x, yrN w.2.2 (nmR w.2.2 0), rfl, if_pos rfl, ?_, ?_, ?_⟩
      · have := (hy x).2; omega
      · have := (hy (nmR w.2.2 0)).2; omega
      · rcases nmR_eq w.2.2 0 with q | ⟨q1, q2⟩
        · left; rw [q, hd.2]
        · right
          have a1 := (hy x).1
          have a2 := (hy (nmR w.2.2 0)).1
          rw [hd.2] at q2
          exact ⟨by omega, by omega⟩
theorem mon_cases (o : Option Wd) : mon o = -1 ∨ ∃ i, i < 12 ∧ mon o = nI i := by
  cases o with
  | none => exact Or.inl rfl
  | some w =>
    unfold mon
    simp only
    split
    · rcases fst3_lt w.2.2 moL 0 (by decide) with q | ⟨i, -, h2, q⟩
      · exact Or.inl q
      · refine Or.inr ⟨i, ?_, q⟩
        have : moL.length = 36 := rfl
        omega
    · exact Or.inl rfl
theorem tS1_eq (N : Wds) (k : Nat) : tS1 N k = dtK N k := by
  unfold tS1 dtK
  cases h1 : num 1 2 N[k]? with
  | none =>
    rw [if_pos (Or.inl (show dyR none < 1 from (by decide : (0 : Int32) < 1)))]
    exact dRs_d.symm
  | some dd =>
    have hdd : dd < 100 := num_lt h1
    rw [show dyR (some dd) = nI dd from rfl, show oN (some dd) = nI dd from rfl]
    rcases mon_cases N[k + 1]? with hm | ⟨i, hi, hm⟩
    · rw [hm, if_pos (Or.inr (Or.inl (show (-1 : Int32) + 1 < 1 by decide)))]
      exact (dRs_no (fun z => by
        obtain ⟨j, hj, e⟩ := day_mo z.2.2.2.2
        exact nI_pos (n := j) (by omega) (by rw [← e]; decide))).symm
    rw [hm, show nI i + 1 = nI (i + 1) from nI_1 i]
    rcases yr_cases N[k + 2]? with ⟨hy, hr⟩ | ⟨n, m, hy, hr, hn1, hm1, hc⟩
    · rw [hy, hr, if_pos (Or.inr (Or.inr (Or.inl (show (-1 : Int32) < 1900 by decide))))]
      exact dRs_y.symm
    rw [hy, hr, show oN (some n) = nI n from rfl]
    rcases hc with rfl | ⟨hn, hm9⟩
    rotate_left
    · rw [if_pos (Or.inr (Or.inr (Or.inr (Or.inl (show (2999 : Int32) < nI m from nI_lt (a := 2999) hm9 hm1)))))]
      exact (dRs_no (fun z => by
        have := (of_decide_eq_true z.2.2.2.2).2.1
        exact nI_ge (a := 2999) (b := n) hn hn1 this)).symm
    have ed : dRf (nI (i + 1)) (nI n) = dOf (nI n) (nI i) := dRf_eq (leap (nI n)) i hi
    rw [ed]
    by_cases ok : dayOk (nI n) (nI i) (nI dd) = true
    rotate_left
    · rw [dRs_no (fun z => ok z.2.2.2.2)]
      refine if_pos ?_
      by_cases c1 : nI dd < 1
      · exact Or.inl c1
      by_cases c2 : nI n < 1900
      · exact Or.inr (Or.inr (Or.inl c2))
      by_cases c3 : 2999 < nI n
      · exact Or.inr (Or.inr (Or.inr (Or.inl c3)))
      by_cases c4 : dOf (nI n) (nI i) < nI dd
      · exact Or.inr (Or.inr (Or.inr (Or.inr c4)))
      exact absurd (decide_eq_true ⟨Int32.not_lt.mp c2, Int32.not_lt.mp c3, Int32.not_lt.mp c1, Int32.not_lt.mp c4⟩) ok
    obtain ⟨o1, o2, o3, o4⟩ := of_decide_eq_true ok
    rw [if_neg (show ¬ (nI dd < 1 ∨ nI (i + 1) < 1 ∨ nI n < 1900 ∨ 2999 < nI n ∨ dOf (nI n) (nI i) < nI dd) from fun z => by
      rcases z with z | z | z | z | z
      · exact Int32.not_lt.mpr o3 z
      · exact nI_nlt (a := i + 1) (b := 1) (by omega) (by omega) z
      · exact Int32.not_lt.mpr o1 z
      · exact Int32.not_lt.mpr o2 z
      · exact Int32.not_lt.mpr o4 z), nI_clamp (n := i + 1) (by omega), nI_clamp (n := n) hn1]
    have hn0 : 1900 ≤ n := (nI_leI (a := 1900) (by decide) hn1).mp o1
    have hn9 : n ≤ 2999 := (nI_leI (b := 2999) hn1 (by decide)).mp o2
    have hd31 : dd ≤ 31 := by
      have h31 : ∀ b : Bool, ∀ j, j < 12 → dOfB b (nI j) ≤ nI 31 := by decide +kernel
      exact (nI_leI (by omega) (by decide)).mp (Int32.le_trans o4 (h31 _ i hi))
    unfold tS2 tS3
    simp only [Nat.add_assoc, Nat.reduceAdd]
    generalize N[k + 3]? = w3
    generalize N[k + 4]? = w4
    generalize N[k + 5]? = w5
    generalize N[k + 6]? = w6
    generalize N[k + 7]? = w7
    generalize N[k + 8]? = w8
    rcases two_cases 24 (by decide) w3 with ⟨t1, b1⟩ | ⟨t1, t1', b1⟩
    · rw [if_pos (Or.inl t1)]
      exact (dRs_no (fun z => by rw [b1] at z; cases z.2.1)).symm
    cases hc : isC w4 58 with
    | false =>
      rw [if_pos (Or.inr (Or.inl (show false = false from rfl)))]
      exact dRs_p.symm
    | true =>
      rcases two_cases 60 (by decide) w5 with ⟨t2, b2⟩ | ⟨t2, t2', b2⟩
      · rw [if_pos (Or.inr (Or.inr t2))]
        exact (dRs_no (fun z => by rw [b2] at z; cases z.2.2.1)).symm
      rw [if_neg (show ¬ (two 24 w3 < 0 ∨ true = false ∨ two 60 w5 < 0) from fun z => by
        rcases z with z | z | z
        · exact t1' z
        · cases z
        · exact t2' z)]
      have fin : ∀ (s : Int32) (z : Int32), below s (nI 61) = true → rV (nI dd) (i + 1) n (two 24 w3) (two 60 w5) s z = dRs (nI dd) (nI i) (nI n) (oN (num 2 2 w3)) true (oN (num 2 2 w5)) s z := by
        intro s z b3
        rw [dRs_yes hi b1 b2 b3 ok, t1, t2]
        unfold rV
        rw [rDn_eq hn0 hn9 hi hd31]
        exact sec_eq _ _ _ _ _
      cases c6 : isC w6 58 with
      | false =>
        simp only [Bool.false_eq_true, ↓reduceIte]
        rw [if_neg (show ¬ (0 : Int32) < 0 by decide)]
        exact fin 0 _ (by decide)
      | true =>
        simp only [↓reduceIte]
        rcases two_cases 61 (by decide) w7 with ⟨t3, b3⟩ | ⟨t3, t3', b3⟩
        · rw [if_pos t3]
          exact (dRs_no (fun z => by rw [b3] at z; cases z.2.2.2.1)).symm
        · rw [if_neg t3', t3]
          exact fin _ _ b3
end DPURE
