/-! ints of 32 bits as whole numbers: iv -/
def iv (x : Int32) : Int := x.toInt
theorem iv_lo (x : Int32) : -2147483648 ≤ iv x := Int32.le_toInt x
theorem iv_hi (x : Int32) : iv x < 2147483648 := Int32.toInt_lt x
theorem iv_le {a b : Int32} : a ≤ b ↔ iv a ≤ iv b := Int32.le_iff_toInt_le
theorem iv_lt {a b : Int32} : a < b ↔ iv a < iv b := Int32.lt_iff_toInt_lt
theorem iv_eq {a b : Int32} : a = b ↔ iv a = iv b := Int32.toInt_inj.symm
theorem iv_bm {x : Int} (h1 : -2147483648 ≤ x) (h2 : x < 2147483648) : x.bmod (2 ^ 32) = x := Int.bmod_eq_of_le_mul_two (by omega) (by omega)
theorem iv_add {a b : Int32} (h1 : -2147483648 ≤ iv a + iv b) (h2 : iv a + iv b < 2147483648) : iv (a + b) = iv a + iv b := (Int32.toInt_add a b).trans (iv_bm h1 h2)
theorem iv_sub {a b : Int32} (h1 : -2147483648 ≤ iv a - iv b) (h2 : iv a - iv b < 2147483648) : iv (a - b) = iv a - iv b := (Int32.toInt_sub a b).trans (iv_bm h1 h2)
theorem iv_mul {a b : Int32} (h1 : -2147483648 ≤ iv a * iv b) (h2 : iv a * iv b < 2147483648) : iv (a * b) = iv a * iv b := (Int32.toInt_mul a b).trans (iv_bm h1 h2)
theorem iv_div {a b : Int32} (h : 0 < iv b) : iv (a / b) = (iv a).tdiv (iv b) := Int32.toInt_div_of_ne_right a b (fun z => by rw [z] at h; exact absurd h (by decide))
theorem iv_nI {n : Nat} (h : n < 2147483648) : iv (nI n) = (n : Int) := Int32.toInt_ofNat_of_lt h
theorem iv_cl {x : Int32} (h : 0 ≤ iv x) : ((x.toNatClampNeg : Nat) : Int) = iv x := Int.toNat_of_nonneg h
theorem iv_0 : iv 0 = 0 := by decide
theorem iv_1 : iv 1 = 1 := by decide
theorem iv_2 : iv 2 = 2 := by decide
theorem iv_3 : iv 3 = 3 := by decide
theorem iv_m1 : iv (-1) = -1 := by decide
theorem iv_99 : iv 99 = 99 := by decide
theorem iv_20 : iv 20 = 20 := by decide
theorem iv_10 : iv 10 = 10 := by decide
theorem iv_100 : iv 100 = 100 := by decide
theorem iv_110 : iv 110 = 110 := by decide
theorem iv_vMin (a b : Int32) : iv (vMin a b) = if iv b < iv a then iv b else iv a := by
  unfold vMin
  by_cases h : b < a
  · rw [if_pos h, if_pos (iv_lt.mp h)]
  · rw [if_neg h, if_neg (fun z => h (iv_lt.mpr z))]
theorem iv_vMax (a b : Int32) : iv (vMax a b) = if iv a < iv b then iv b else iv a := by
  unfold vMax
  by_cases h : a < b
  · rw [if_pos h, if_pos (iv_lt.mp h)]
  · rw [if_neg h, if_neg (fun z => h (iv_lt.mpr z))]
/-- buckets for stems -/
theorem iv_div20 {x : Int32} (h0 : 0 ≤ iv x) : iv (x / 20) = iv x / 20 := by
  rw [iv_div (by rw [iv_20]; decide), iv_20, Int.tdiv_eq_ediv_of_nonneg h0]
theorem iv_vBuckets {x : Int32} (h0 : 0 ≤ iv x) : iv (vBuckets x) = (iv x + 19) / 20 := by
  have h1 := iv_hi x
  have e1 := iv_div20 h0
  have e2 : iv (x / 20 * 20) = iv x / 20 * 20 := by rw [iv_mul (by rw [e1, iv_20]; omega) (by rw [e1, iv_20]; omega), e1, iv_20]
  have e3 : iv (x - x / 20 * 20) = iv x - iv x / 20 * 20 := by rw [iv_sub (by rw [e2]; omega) (by rw [e2]; omega), e2]
  unfold vBuckets
  by_cases h : x - x / 20 * 20 ≤ 0
  · rw [if_pos h]
    rw [iv_le, e3, iv_0] at h
    rw [iv_add (by rw [iv_0, e1]; omega) (by rw [iv_0, e1]; omega), e1, iv_0]
    omega
  · rw [if_neg h]
    rw [iv_le, e3, iv_0] at h
    rw [iv_add (by rw [iv_1, e1]; omega) (by rw [iv_1, e1]; omega), e1, iv_1]
    omega
