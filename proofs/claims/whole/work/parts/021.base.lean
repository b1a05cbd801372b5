/-! numbers: an int is iZ of a whole number, a long lZ of one -/
def iZ (z : Int) : Int32 := Int32.ofInt z
def lZ (z : Int) : Int64 := Int64.ofInt z
theorem iZ_of (x : Int32) : x = iZ x.toInt := (Int32.ofInt_toInt x).symm
theorem lZ_of (x : Int64) : x = lZ x.toInt := (Int64.ofInt_toInt x).symm
theorem iZ_ex (x : Int32) : ∃ z : Int, -2147483648 ≤ z ∧ z < 2147483648 ∧ x = iZ z := by
  have h1 := Int32.toInt_lt x
  have h2 := Int32.le_toInt x
  exact ⟨x.toInt, by omega, by omega, iZ_of x⟩
theorem iZ_add (a b : Int) : iZ a + iZ b = iZ (a + b) := (Int32.ofInt_add a b).symm
theorem iZ_sub (a b : Int) : iZ a - iZ b = iZ (a - b) := (Int32.ofInt_sub a b).symm
theorem iZ_mul (a b : Int) : iZ a * iZ b = iZ (a * b) := (Int32.ofInt_mul a b).symm
theorem iZ_neg (a : Int) : -iZ a = iZ (-a) := (Int32.ofInt_neg a).symm
theorem lZ_add (a b : Int) : lZ a + lZ b = lZ (a + b) := (Int64.ofInt_add a b).symm
theorem lZ_sub (a b : Int) : lZ a - lZ b = lZ (a - b) := (Int64.ofInt_sub a b).symm
theorem lZ_mul (a b : Int) : lZ a * lZ b = lZ (a * b) := (Int64.ofInt_mul a b).symm
theorem lZ_neg (a : Int) : -lZ a = lZ (-a) := (Int64.ofInt_neg a).symm
abbrev iR (a : Int) : Prop := -2147483648 ≤ a ∧ a < 2147483648
abbrev lR (a : Int) : Prop := -9223372036854775808 ≤ a ∧ a < 9223372036854775808
theorem iZ_toInt {a : Int} (h : iR a) : (iZ a).toInt = a := Int32.toInt_ofInt_of_le (by have := h.1; omega) (by have := h.2; omega)
theorem lZ_toInt {a : Int} (h : lR a) : (lZ a).toInt = a := Int64.toInt_ofInt_of_le (by have := h.1; omega) (by have := h.2; omega)
theorem iZ_lt {a b : Int} (ha : iR a) (hb : iR b) : iZ a < iZ b ↔ a < b := by rw [Int32.lt_iff_toInt_lt, iZ_toInt ha, iZ_toInt hb]
theorem iZ_le {a b : Int} (ha : iR a) (hb : iR b) : iZ a ≤ iZ b ↔ a ≤ b := by rw [Int32.le_iff_toInt_le, iZ_toInt ha, iZ_toInt hb]
theorem iZ_eq {a b : Int} (ha : iR a) (hb : iR b) : iZ a = iZ b ↔ a = b := by rw [← Int32.toInt_inj, iZ_toInt ha, iZ_toInt hb]
theorem lZ_lt {a b : Int} (ha : lR a) (hb : lR b) : lZ a < lZ b ↔ a < b := by rw [Int64.lt_iff_toInt_lt, lZ_toInt ha, lZ_toInt hb]
theorem lZ_le {a b : Int} (ha : lR a) (hb : lR b) : lZ a ≤ lZ b ↔ a ≤ b := by rw [Int64.le_iff_toInt_le, lZ_toInt ha, lZ_toInt hb]
theorem lZ_eq {a b : Int} (ha : lR a) (hb : lR b) : lZ a = lZ b ↔ a = b := by rw [← Int64.toInt_inj, lZ_toInt ha, lZ_toInt hb]
theorem iZ_0 : (0 : Int32) = iZ 0 := rfl
theorem lZ_0 : (0 : Int64) = lZ 0 := rfl
theorem iZ_l {a : Int} (h : iR a) : (iZ a).toInt64 = lZ a := by
  apply Int64.toInt_inj.mp
  rw [Int32.toInt_toInt64, iZ_toInt h, lZ_toInt ⟨by have := h.1; omega, by have := h.2; omega⟩]
theorem lZ_i (a : Int) : (lZ a).toInt32 = iZ a := Int64.toInt32_ofInt
theorem iZ_div {a b : Int} (ha : 0 ≤ a) (ha' : a < 2147483648) (hb : 0 < b) (hb' : b < 2147483648) : iZ a / iZ b = iZ (a / b) := by
  have h1 : a / b ≤ a := Int.ediv_le_self b ha
  have h2 : 0 ≤ a / b := Int.ediv_nonneg ha (Int.le_of_lt hb)
  apply Int32.toInt_inj.mp
  rw [Int32.toInt_div_of_ne_right, iZ_toInt ⟨by omega, by omega⟩, iZ_toInt ⟨by omega, by omega⟩, iZ_toInt ⟨by omega, by omega⟩, Int.tdiv_eq_ediv_of_nonneg ha]
  intro h
  rw [show (-1 : Int32) = iZ (-1) from rfl, iZ_eq ⟨by omega, by omega⟩ ⟨by omega, by omega⟩] at h
  omega
theorem lZ_div {a b : Int} (ha : 0 ≤ a) (ha' : a < 9223372036854775808) (hb : 0 < b) (hb' : b < 9223372036854775808) : lZ a / lZ b = lZ (a / b) := by
  have h1 : a / b ≤ a := Int.ediv_le_self b ha
  have h2 : 0 ≤ a / b := Int.ediv_nonneg ha (Int.le_of_lt hb)
  apply Int64.toInt_inj.mp
  rw [Int64.toInt_div_of_ne_right, lZ_toInt ⟨by omega, by omega⟩, lZ_toInt ⟨by omega, by omega⟩, lZ_toInt ⟨by omega, by omega⟩, Int.tdiv_eq_ediv_of_nonneg ha]
  intro h
  rw [show (-1 : Int64) = lZ (-1) from rfl, lZ_eq ⟨by omega, by omega⟩ ⟨by omega, by omega⟩] at h
  omega
/-- a whole division of any sign by a divisor above 0 that goes up -/
theorem lZ_divE {a b q : Int} (ha : lR a) (hb : 0 < b) (hb' : b < 9223372036854775808) (h : a = q * b) : lZ a / lZ b = lZ q := by
  have hq : lR q := by
    obtain ⟨h1, h2⟩ := ha
    constructor
    · rcases Int.lt_or_le q 0 with hn | hn
      · have : q * b ≤ q * 1 := Int.mul_le_mul_of_nonpos_left (Int.le_of_lt hn) (by omega)
        omega
      · omega
    · rcases Int.lt_or_le q 0 with hn | hn
      · omega
      · have : q * 1 ≤ q * b := Int.mul_le_mul_of_nonneg_left (by omega) hn
        omega
  apply Int64.toInt_inj.mp
  rw [Int64.toInt_div_of_ne_right, lZ_toInt ha, lZ_toInt ⟨by omega, by omega⟩, lZ_toInt hq, h, Int.mul_tdiv_cancel _ (by omega)]
  intro h
  rw [show (-1 : Int64) = lZ (-1) from rfl, lZ_eq ⟨by omega, by omega⟩ ⟨by omega, by omega⟩] at h
  omega
theorem iZ_rem {a b : Int} (ha : 0 ≤ a) (ha' : a < 2147483648) (hb : 0 < b) (hb' : b < 2147483648) : iZ a - iZ a / iZ b * iZ b = iZ (a % b) := by
  rw [iZ_div ha ha' hb hb', iZ_mul, iZ_sub]
  congr 1
  rw [Int.emod_def, Int.mul_comm]
theorem lZ_rem {a b : Int} (ha : 0 ≤ a) (ha' : a < 9223372036854775808) (hb : 0 < b) (hb' : b < 9223372036854775808) : lZ a - lZ a / lZ b * lZ b = lZ (a % b) := by
  rw [lZ_div ha ha' hb hb', lZ_mul, lZ_sub]
  congr 1
  rw [Int.emod_def, Int.mul_comm]
theorem iZ_cl {a : Int} (h : iR a) : (iZ a).toNatClampNeg = a.toNat := by
  show (iZ a).toInt.toNat = a.toNat
  rw [iZ_toInt h]
theorem iZ_cN {n : Nat} (h : n < 2147483648) : (iZ (n : Int)).toNatClampNeg = n := by
  rw [iZ_cl ⟨by omega, by omega⟩]; rfl
theorem iZ_in {j n : Nat} (h : j < n) (hn : n < 2147483648) : vp_in (iZ (j : Int)) n := by
  rw [vp_in_iff, iZ_toInt ⟨by omega, by omega⟩]
  exact ⟨by omega, by omega⟩
theorem iZ_nI (n : Nat) : iZ (n : Int) = nI n := Int32.ofInt_eq_ofNat
theorem lZ_lN (n : Nat) : lZ (n : Int) = lN n := Int64.ofInt_eq_ofNat
