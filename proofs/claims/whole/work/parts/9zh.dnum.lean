/-! dates: the number of the day, as the reference counts it and as the class does -/
def dRfB (b : Bool) (m : Int32) : Int32 := if m = 2 then (if b = true then 29 else 28) else if m = 4 ∨ m = 6 ∨ m = 9 ∨ m = 11 then 30 else 31
def dRf (m y : Int32) : Int32 := dRfB (leap y) m
def yS (i : Nat) : Nat → Int64 → Int64
  | 0, x => x
  | n + 1, x => yS (i + 1) n (x + (if leap (nI i) = true then 366 else 365))
def mSB (b : Bool) (i : Nat) : Nat → Int64 → Int64
  | 0, x => x
  | n + 1, x => mSB b (i + 1) n (x + (dRfB b (nI i)).toInt64)
def rDn (d : Int32) (mo y : Nat) : Int64 := mSB (leap (nI y)) 1 (mo - 1) (yS 1900 (y - 1900) 0) + d.toInt64 - 1 - 25567
section DNUM
theorem dA_step : ∀ k, k < 1100 → (dA (nI (1900 + k + 1))).toInt = (dA (nI (1900 + k))).toInt + (if leap (nI (1900 + k)) = true then 366 else 365) ∧ 693595 ≤ (dA (nI (1900 + k))).toInt ∧ (dA (nI (1900 + k))).toInt ≤ 1200000 := by decide +kernel
theorem i64_366 : (366 : Int64) = Int64.ofInt 366 ∧ (365 : Int64) = Int64.ofInt 365 := by decide
theorem yS_eq : ∀ (n i : Nat) (x : Int64), 1900 ≤ i → i + n ≤ 3000 → yS i n x = x + Int64.ofInt ((dA (nI (i + n))).toInt - (dA (nI i)).toInt)
  | 0, i, x, _, _ => by
    rw [yS, Nat.add_zero, Int.sub_self]
    exact (Int64.add_zero x).symm
  | n + 1, i, x, h1, h2 => by
    obtain ⟨k, rfl⟩ : ∃ k, i = 1900 + k := ⟨i - 1900, by omega⟩
    have st := (dA_step k (by omega)).1
    rw [yS, yS_eq n (1900 + k + 1) _ (by omega) (by omega), Int64.add_assoc]
    congr 1
    have e : (if leap (nI (1900 + k)) = true then (366 : Int64) else 365) = Int64.ofInt (if leap (nI (1900 + k)) = true then 366 else 365) := by
      by_cases q : leap (nI (1900 + k)) = true
      · rw [if_pos q, if_pos q]; exact i64_366.1
      · rw [if_neg q, if_neg q]; exact i64_366.2
    rw [e, ← Int64.ofInt_add, show 1900 + k + 1 + n = 1900 + k + (n + 1) by omega]
    congr 1
    omega
theorem mSB_x (b : Bool) : ∀ (n i : Nat) (x : Int64), mSB b i n x = x + mSB b i n 0
  | 0, i, x => (Int64.add_zero x).symm
  | n + 1, i, x => by
    rw [mSB, mSB, mSB_x b n (i + 1) (x + _), mSB_x b n (i + 1) (0 + _), Int64.zero_add, Int64.add_assoc]
theorem mSB_eq : ∀ b : Bool, ∀ m, m < 13 → mSB b 1 m 0 = Int64.ofInt (mSmB b m).toInt ∧ 0 ≤ (mSmB b m).toInt ∧ (mSmB b m).toInt ≤ 366 := by decide +kernel
theorem i3264 {z : Int} (h1 : -2147483648 ≤ z) (h2 : z < 2147483648) : (Int32.ofInt z).toInt64 = Int64.ofInt z := by
  refine Int64.toInt_inj.mp ?_
  rw [Int32.toInt_toInt64, Int32.toInt_ofInt_of_le (by omega) (by omega), Int64.toInt_ofInt_of_le (by omega) (by omega)]
theorem nI_ofInt (n : Nat) : nI n = Int32.ofInt n := by
  unfold nI
  exact Int32.ofInt_eq_ofNat.symm
/-- the same day -/
theorem rDn_eq {n m dd : Nat} (h1 : 1900 ≤ n) (h2 : n ≤ 2999) (hm : m < 12) (hd : dd ≤ 31) : rDn (nI dd) (m + 1) n = (dA (nI n) - dA 1970 + nI dd - 1 + mSm (nI n) m).toInt64 := by
  obtain ⟨k, rfl⟩ : ∃ k, n = 1900 + k := ⟨n - 1900, by omega⟩
  obtain ⟨-, a1, a2⟩ := dA_step k (by omega)
  obtain ⟨s1, s2, s3⟩ := mSB_eq (leap (nI (1900 + k))) m (by omega)
  have e0 : (dA (nI 1900)).toInt = 693595 := by decide +kernel
  have e70 : dA 1970 = Int32.ofInt 719162 := by decide +kernel
  have e32 : dA (nI (1900 + k)) - dA 1970 + nI dd - 1 + mSm (nI (1900 + k)) m = Int32.ofInt ((dA (nI (1900 + k))).toInt - 719162 + dd - 1 + (mSmB (leap (nI (1900 + k))) m).toInt) := by
    rw [Int32.ofInt_add, Int32.ofInt_sub, Int32.ofInt_add, Int32.ofInt_sub, Int32.ofInt_toInt, Int32.ofInt_toInt, e70, nI_ofInt dd]
    rfl
  rw [e32, i3264 (by omega) (by omega)]
  unfold rDn
  rw [Nat.add_sub_cancel, mSB_x, s1, yS_eq _ _ _ (Nat.le_refl _) (by omega), e0, Nat.add_sub_cancel_left, Int64.zero_add, nI_ofInt dd, i3264 (by omega) (by omega)]
  rw [show (25567 : Int64) = Int64.ofInt 25567 by decide, show (1 : Int64) = Int64.ofInt 1 by decide, ← Int64.ofInt_add, ← Int64.ofInt_add, ← Int64.ofInt_sub, ← Int64.ofInt_sub]
  congr 1
  omega
theorem sec_eq (D h m s z : Int64) : D * 86400 + 3600 * h + 60 * m + s - z = 60 * (60 * (24 * D + h) + m) + s - z := by
  congr 2
  rw [Int64.mul_add, Int64.mul_add, Int64.mul_add, ← Int64.mul_assoc, ← Int64.mul_assoc, ← Int64.mul_assoc, Int64.mul_comm D]
  rfl
/-- the days of a month on either side -/
theorem dRf_eq : ∀ b : Bool, ∀ m, m < 12 → dRfB b (nI (m + 1)) = dOfB b (nI m) := by decide +kernel
end DNUM
