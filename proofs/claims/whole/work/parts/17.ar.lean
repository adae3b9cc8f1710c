/-! Sums of ints. -/
def zI (z : Int) : Int32 := Int32.ofInt z
theorem nI_z (n : Nat) : nI n = zI n := Int32.ofInt_eq_ofNat.symm
theorem zI_add (a b : Int) : zI a + zI b = zI (a + b) := (Int32.ofInt_add a b).symm
theorem zI_sub (a b : Int) : zI a - zI b = zI (a - b) := (Int32.ofInt_sub a b).symm
theorem zI_mul (a b : Int) : zI a * zI b = zI (a * b) := (Int32.ofInt_mul a b).symm
theorem zI_neg (a : Int) : - zI a = zI (-a) := (Int32.ofInt_neg a).symm
theorem zI_toInt {z : Int} (h : -2147483648 ≤ z) (h2 : z < 2147483648) : (zI z).toInt = z := Int32.toInt_ofInt_of_le (by omega) (by omega)
theorem zI_of (x : Int32) : x = zI x.toInt := (Int32.ofInt_toInt x).symm
theorem zI_lt {a b : Int} (h1 : -2147483648 ≤ a) (h2 : a < 2147483648) (h3 : -2147483648 ≤ b) (h4 : b < 2147483648) : zI a < zI b ↔ a < b := by
  rw [Int32.lt_iff_toInt_lt, zI_toInt h1 h2, zI_toInt h3 h4]
theorem zI_eq {a b : Int} (h1 : -2147483648 ≤ a) (h2 : a < 2147483648) (h3 : -2147483648 ≤ b) (h4 : b < 2147483648) : zI a = zI b ↔ a = b := by
  rw [← Int32.toInt_inj, zI_toInt h1 h2, zI_toInt h3 h4]
theorem nI_sub {a b : Nat} (h : b ≤ a) : nI a - nI b = nI (a - b) := by
  have e := nI_add (a - b) b
  rw [Nat.sub_add_cancel h] at e
  rw [← e]; exact Int32.add_sub_cancel _ _
theorem nI_subz (a b : Nat) : nI a - nI b = zI ((a : Int) - b) := by rw [nI_z, nI_z, zI_sub]
theorem nI_mul (a b : Nat) : nI a * nI b = nI (a * b) := by rw [nI_z, nI_z, zI_mul, nI_z, Int.natCast_mul]
theorem nI_div {a b : Nat} (ha : a < 2147483648) (hb : b < 2147483648) : nI a / nI b = nI (a / b) := by
  rw [nI_z, nI_z, nI_z]
  have h : (Int32.minValue.toInt) = -2147483648 := by decide +kernel
  have h' : (Int32.maxValue.toInt) = 2147483647 := by decide +kernel
  have e := Int32.ofInt_tdiv (a := (a : Int)) (b := (b : Int)) (by omega) (by omega) (by omega) (by omega)
  rw [← Int.ofNat_tdiv] at e
  exact e.symm
theorem nI_rem {a b : Nat} (ha : a < 2147483648) (hb : b < 2147483648) : nI a - nI a / nI b * nI b = nI (a % b) := by
  rw [nI_div ha hb, nI_mul, nI_sub (Nat.div_mul_le_self a b)]
  congr 1
  have e := Nat.div_add_mod a b
  rw [Nat.mul_comm] at e
  omega
theorem nI_ne {a b : Nat} (h : a ≠ b) (ha : a < 2147483648) (hb : b < 2147483648) : ¬ nI a = nI b := by
  rw [nI_eq (by omega) (by omega)]; exact h
theorem nI_tI {n : Nat} (h : n < 2147483648) : (nI n).toInt = (n : Int) := nI_toInt (by omega)
/-- an int that is no index -/
theorem nI_in_or (x : Int32) (n : Nat) (hn : n < 2147483648) : (∃ j, j < n ∧ x = nI j) ∨ (x.toInt < 0 ∨ (n : Int) ≤ x.toInt) := by
  by_cases h0 : x.toInt < 0
  · exact .inr (.inl h0)
  · by_cases h1 : (n : Int) ≤ x.toInt
    · exact .inr (.inr h1)
    · refine .inl ⟨x.toInt.toNat, by omega, ?_⟩
      rw [nI_z, Int.toNat_of_nonneg (by omega)]
      exact zI_of x
theorem lt0 {x : Int32} : x < nI 0 ↔ x.toInt < 0 := by
  rw [Int32.lt_iff_toInt_lt, nI_tI (by omega)]; rfl
theorem ltn {x : Int32} {n : Nat} (h : n < 2147483648) : x < nI n ↔ x.toInt < n := by
  rw [Int32.lt_iff_toInt_lt, nI_tI h]
theorem nlt {x : Int32} {n : Nat} (h : n < 2147483648) : nI n < x ↔ (n : Int) < x.toInt := by
  rw [Int32.lt_iff_toInt_lt, nI_tI h]
theorem eqn {x : Int32} {n : Nat} (h : n < 2147483648) : x = nI n ↔ x.toInt = n := by
  rw [← Int32.toInt_inj, nI_tI h]
