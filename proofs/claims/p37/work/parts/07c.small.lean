/-! small facts for the runner -/
theorem kx_beq (a b : Nat) : Nat.beq a b = decide (a = b) := by rw [Bool.eq_iff_iff]; simp [Nat.beq_eq]
def kx_in : List Nat → Nat → Bool
  | [], _ => false
  | a :: l, b => Nat.beq a b || kx_in l b
theorem kx_isr_r (a : Nat) : kx_isr (.ref a) = True := eq_true ⟨some a, rfl⟩
theorem kx_isr_n : kx_isr .null = True := eq_true ⟨none, rfl⟩
theorem kx_isr_v (o : Option Nat) : kx_isr (va_rf o) = True := eq_true ⟨o, rfl⟩
theorem va_rf_inj {o q : Option Nat} (h : va_rf o = va_rf q) : o = q := by
  cases o <;> cases q <;> first | rfl | (cases h; done) | (cases h; rfl)
theorem kx_ex_v (o : Option Nat) (P : Option Nat → Prop) : (∃ q, va_rf o = va_rf q ∧ P q) = P o := propext ⟨fun ⟨q, e, h⟩ => by rw [va_rf_inj e]; exact h, fun h => ⟨o, rfl, h⟩⟩
theorem kx_ex_r (a : Nat) (P : Option Nat → Prop) : (∃ q, Value.ref a = va_rf q ∧ P q) = P (some a) := kx_ex_v (some a) P
theorem kx_ex_n (P : Option Nat → Prop) : (∃ q, Value.null = va_rf q ∧ P q) = P none := kx_ex_v none P
theorem kx_ex2_v (o : Option Nat) (P : Option Nat → Nat → Prop) : (∃ q a, va_rf o = va_rf q ∧ P q a) = ∃ a, P o a := propext ⟨fun ⟨q, a, e, h⟩ => ⟨a, by rw [va_rf_inj e]; exact h⟩, fun ⟨a, h⟩ => ⟨o, a, rfl, h⟩⟩
theorem kx_ex2_r (b : Nat) (P : Option Nat → Nat → Prop) : (∃ q a, Value.ref b = va_rf q ∧ P q a) = ∃ a, P (some b) a := kx_ex2_v (some b) P
theorem kx_ex2_n (P : Option Nat → Nat → Prop) : (∃ q a, Value.null = va_rf q ∧ P q a) = ∃ a, P none a := kx_ex2_v none P
theorem va_rf_s (a : Nat) : va_rf (some a) = .ref a := rfl
theorem va_rf_n : va_rf none = .null := rfl
theorem kx_cat_i (x : Int32) : Value.category (.int x) = 1 := rfl
theorem kx_cat_l (x : Int64) : Value.category (.long x) = 2 := rfl
theorem kx_cat_r (x : Nat) : Value.category (.ref x) = 1 := rfl
theorem kx_cat_n : Value.category .null = 1 := rfl
theorem kx_cat_v (o : Option Nat) : Value.category (va_rf o) = 1 := by cases o <;> rfl
theorem kx_l0 (l : List Value) : (0 ≤ l.length) = True := eq_true (Nat.zero_le _)
theorem kd_sI (M : kx_M) (i a : Nat) (x : Int32) : kd (sI M i a x) = kd M := funext fun _ => rfl
theorem kd_sR (M : kx_M) (i a : Nat) (x : Option Nat) : kd (sR M i a x) = kd M := funext fun _ => rfl
theorem kd_sA (M : kx_M) (i a : Nat) (x : Int32) : kd (sA M i a x) = kd M := funext fun _ => rfl
theorem kd_sL (M : kx_M) (a : Nat) (x : List Nat) : kd (sL M a x) = kd M := funext fun _ => rfl
theorem fI_sI_eq (M : kx_M) (i a : Nat) (x : Int32) : fI (sI M i a x) i a = x := if_pos ⟨rfl, rfl⟩
theorem fI_sI_ne (M : kx_M) (i j a b : Nat) (x : Int32) (h : j ≠ i) : fI (sI M i a x) j b = fI M j b := if_neg (fun z => h z.1)
theorem fI_sI_na (M : kx_M) (i j a b : Nat) (x : Int32) (h : b ≠ a) : fI (sI M i a x) j b = fI M j b := if_neg (fun z => h z.2)
theorem fR_sI (M : kx_M) (i a : Nat) (x : Int32) : fR (sI M i a x) = fR M := funext fun _ => rfl
theorem aI_sI (M : kx_M) (i a : Nat) (x : Int32) : aI (sI M i a x) = aI M := funext fun _ => rfl
theorem mL_sI (M : kx_M) (i a : Nat) (x : Int32) : mL (sI M i a x) = mL M := funext fun _ => rfl
theorem ln_sI (M : kx_M) (i a : Nat) (x : Int32) : ln (sI M i a x) = ln M := funext fun _ => rfl
theorem fR_sR_eq (M : kx_M) (i a : Nat) (x : Option Nat) : fR (sR M i a x) i a = x := if_pos ⟨rfl, rfl⟩
theorem fR_sR_ne (M : kx_M) (i j a b : Nat) (x : Option Nat) (h : j ≠ i) : fR (sR M i a x) j b = fR M j b := if_neg (fun z => h z.1)
theorem fR_sR_na (M : kx_M) (i j a b : Nat) (x : Option Nat) (h : b ≠ a) : fR (sR M i a x) j b = fR M j b := if_neg (fun z => h z.2)
theorem fI_sR (M : kx_M) (i a : Nat) (x : Option Nat) : fI (sR M i a x) = fI M := funext fun _ => rfl
theorem aI_sR (M : kx_M) (i a : Nat) (x : Option Nat) : aI (sR M i a x) = aI M := funext fun _ => rfl
theorem mL_sR (M : kx_M) (i a : Nat) (x : Option Nat) : mL (sR M i a x) = mL M := funext fun _ => rfl
theorem ln_sR (M : kx_M) (i a : Nat) (x : Option Nat) : ln (sR M i a x) = ln M := funext fun _ => rfl
theorem fI_sA (M : kx_M) (i a : Nat) (x : Int32) : fI (sA M i a x) = fI M := funext fun _ => rfl
theorem fR_sA (M : kx_M) (i a : Nat) (x : Int32) : fR (sA M i a x) = fR M := funext fun _ => rfl
theorem mL_sA (M : kx_M) (i a : Nat) (x : Int32) : mL (sA M i a x) = mL M := funext fun _ => rfl
theorem ln_sA (M : kx_M) (i a : Nat) (x : Int32) : ln (sA M i a x) = ln M := funext fun _ => rfl
theorem fI_sL (M : kx_M) (a : Nat) (x : List Nat) : fI (sL M a x) = fI M := funext fun _ => rfl
theorem fR_sL (M : kx_M) (a : Nat) (x : List Nat) : fR (sL M a x) = fR M := funext fun _ => rfl
theorem aI_sL (M : kx_M) (a : Nat) (x : List Nat) : aI (sL M a x) = aI M := funext fun _ => rfl
theorem ln_sL (M : kx_M) (a : Nat) (x : List Nat) : ln (sL M a x) = ln M := funext fun _ => rfl
theorem aI_sA_eq (M : kx_M) (a i : Nat) (x : Int32) : aI (sA M a i x) a i = x := if_pos ⟨rfl, rfl⟩
theorem aI_sA_ne (M : kx_M) (a b i j : Nat) (x : Int32) (h : ¬ (b = a ∧ j = i)) : aI (sA M a i x) b j = aI M b j := if_neg h
theorem mL_sL_eq (M : kx_M) (a : Nat) (x : List Nat) : mL (sL M a x) a = x := if_pos rfl
theorem mL_sL_ne (M : kx_M) (a b : Nat) (x : List Nat) (h : b ≠ a) : mL (sL M a x) b = mL M b := if_neg h
/-! ints of 32 bits as whole numbers -/
theorem kx_toInt {n : Nat} (h : n < 2147483648) : (Int32.ofNat n).toInt = (n : Int) := by
  rw [Int32.toInt_ofNat_of_lt (by omega)]
theorem vp_of {c : Int32} {n : Nat} (hn : n < 2147483648) (h0 : 0 ≤ c) (h1 : c < Int32.ofNat n) : vp_in c n := by
  have e0 := Int32.le_iff_toInt_le.mp h0
  have e1 := Int32.lt_iff_toInt_lt.mp h1
  rw [kx_toInt hn] at e1
  have e2 : (0 : Int32).toInt = 0 := by decide
  unfold vp_in
  rintro (h | h)
  · have := Int32.lt_iff_toInt_lt.mp h
    omega
  · have e3 : c.toNatClampNeg = c.toInt.toNat := rfl
    omega
theorem vp_lt {c : Int32} {n : Nat} (h : vp_in c n) : c.toNatClampNeg < n := Nat.not_le.mp fun q => h (Or.inr q)
theorem kx_c0 : Int32.toNatClampNeg 0 = 0 := by decide
theorem kx_c1 : Int32.toNatClampNeg 1 = 1 := by decide
theorem kx_c2' : Int32.toNatClampNeg 2 = 2 := by decide
theorem kx_c3 : Int32.toNatClampNeg 3 = 3 := by decide
theorem kx_c6 : Int32.toNatClampNeg 6 = 6 := by decide
theorem kx_c10 : Int32.toNatClampNeg 10 = 10 := by decide
theorem kx_clamp {n : Nat} (h : n < 2147483648) : (Int32.ofNat n).toNatClampNeg = n := by
  show (Int32.ofNat n).toInt.toNat = n
  rw [kx_toInt h]; rfl
theorem fI_sN_ne {M : kx_M} {a b k n : Nat} (i : Nat) (h : b ≠ a) : fI (sN M a k n) i b = fI M i b := if_neg h
theorem fR_sN_ne {M : kx_M} {a b k n : Nat} (i : Nat) (h : b ≠ a) : fR (sN M a k n) i b = fR M i b := if_neg h
theorem fI_sN {M : kx_M} {a k n : Nat} (i : Nat) : fI (sN M a k n) i a = 0 := if_pos rfl
theorem fR_sN {M : kx_M} {a k n : Nat} (i : Nat) : fR (sN M a k n) i a = none := if_pos rfl
theorem ln_sN {M : kx_M} {a k n : Nat} : ln (sN M a k n) a = n := if_pos rfl
theorem ln_sN_ne {M : kx_M} {a b k n : Nat} (h : b ≠ a) : ln (sN M a k n) b = ln M b := if_neg h
theorem aI_sN_ne {M : kx_M} {a b k n : Nat} (h : b ≠ a) : aI (sN M a k n) b = aI M b := funext fun _ => if_neg h
theorem aI_sN {M : kx_M} {a k n : Nat} (j : Nat) : aI (sN M a k n) a j = 0 := if_pos rfl
theorem aR_sN_ne {M : kx_M} {a b k n : Nat} (h : b ≠ a) : aR (sN M a k n) b = aR M b := funext fun _ => if_neg h
theorem mL_sN_ne {M : kx_M} {a b k n : Nat} (h : b ≠ a) : mL (sN M a k n) b = mL M b := if_neg h
theorem mL_sN {M : kx_M} {a k n : Nat} : mL (sN M a k n) a = [] := if_pos rfl
theorem kx_ne {M : kx_M} {a b k : Nat} (ha : kd M a = k) (hb : kd M b = 0) (hk : k ≠ 0) : a ≠ b := fun z => hk (by rw [← ha, z, hb])
theorem i32_le0 {n : Nat} (h : n < 2147483648) : (0 : Int32) ≤ Int32.ofNat n := by
  rw [Int32.le_iff_toInt_le, kx_toInt h]
  have : (0 : Int32).toInt = 0 := by decide
  omega
theorem i32_lt {m n : Nat} (hm : m < 2147483648) (hn : n < 2147483648) : (Int32.ofNat m < Int32.ofNat n) = (m < n) := by
  rw [Int32.lt_iff_toInt_lt, kx_toInt hm, kx_toInt hn]
  exact propext (by omega)
theorem i32_le {m n : Nat} (hm : m < 2147483648) (hn : n < 2147483648) : (Int32.ofNat m ≤ Int32.ofNat n) = (m ≤ n) := by
  rw [Int32.le_iff_toInt_le, kx_toInt hm, kx_toInt hn]
  exact propext (by omega)
theorem vp_nat {i n : Nat} (hi : i < n) (hn : n < 2147483648) : vp_in (Int32.ofNat i) n := vp_of hn (i32_le0 (by omega)) (by rw [i32_lt (by omega) hn]; exact hi)
