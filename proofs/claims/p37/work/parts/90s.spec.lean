/-! THE LAW'S OWN SMALL METHODS -/
def vBelow (v n : Int32) : Int32 := (v &&& 2147483647) - (v &&& 2147483647) / n * n
def f2_L_below (_ : kx_E) (av : List Value) (M : kx_M) : kx_F := match av with
  | [.int v, .int n] => (n ≠ 0, [.int (vBelow v n)], M)
  | _ => (False, [], M)
def vCell (E : kx_E) (k : Int32) : Int32 := if Int32.ofNat (kx_L E) ≤ k then 790386105 * (k + 3) else kx_xs E k.toNatClampNeg
def f2_L_cell (E : kx_E) (av : List Value) (M : kx_M) : kx_F := match av with
  | [.ref s, .int k] => (s = kx_b E ∧ 0 ≤ k ∧ kx_L E ≤ 260, [.int (vCell E k)], M)
  | _ => (False, [], M)
theorem and_nn (v : Int32) : 0 ≤ iv (v &&& 2147483647) := by
  rw [pk_and v (m := 2147483647) 31 (by decide), iv_nI (Nat.mod_lt _ (by decide))]
  omega
/-- below n -/
theorem vBelow_in (v : Int32) {n : Int32} (hn : 1 ≤ iv n) : 0 ≤ iv (vBelow v n) ∧ iv (vBelow v n) < iv n := by
  have h0 := and_nn v
  have h1 := iv_hi (v &&& 2147483647)
  unfold vBelow
  generalize v &&& 2147483647 = u at *
  have e1 : iv (u / n) = iv u / iv n := by rw [iv_div (by omega), Int.tdiv_eq_ediv_of_nonneg h0]
  have e2 := Int.mul_ediv_self_le (x := iv u) (k := iv n) (by omega)
  have e3 := Int.lt_mul_ediv_self_add (x := iv u) (k := iv n) (by omega)
  have e4 : 0 ≤ iv u / iv n := Int.ediv_nonneg h0 (by omega)
  have e5 : iv u / iv n * iv n = iv n * (iv u / iv n) := Int.mul_comm _ _
  have e6 : 0 ≤ iv n * (iv u / iv n) := Int.mul_nonneg (by omega) e4
  have e7 : iv (u / n * n) = iv n * (iv u / iv n) := by rw [iv_mul (by rw [e1, e5]; omega) (by rw [e1, e5]; omega), e1, e5]
  rw [iv_sub (by rw [e7]; omega) (by rw [e7]; omega), e7]
  omega
theorem vBelow_nI (v : Int32) {n : Int32} {c : Nat} (hn : iv n = (c : Int)) (hc : 1 ≤ c) : ∃ k, k < c ∧ vBelow v n = nI k := by
  obtain ⟨h1, h2⟩ := vBelow_in v (n := n) (by omega)
  refine ⟨(iv (vBelow v n)).toNat, by omega, ?_⟩
  have h3 := iv_hi (vBelow v n)
  rw [iv_eq, iv_nI (by omega)]
  omega
