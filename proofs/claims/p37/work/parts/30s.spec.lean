/-! BRING -/
def ePut (M : kx_M) (q : Nat) (c x : Int32) : kx_M := if 0 ≤ c ∧ c < 3 then sA M q c.toNatClampNeg x else M
theorem ePut_eq (M : kx_M) (q : Nat) (c x : Int32) : (if 0 ≤ c ∧ c < 3 then sA M q c.toNatClampNeg x else M) = ePut M q c x := by unfold ePut; exact (Eq.trans rfl rfl)
theorem kd_ePut (M : kx_M) (q : Nat) (c x : Int32) : kd (ePut M q c x) = kd M := by unfold ePut; split <;> rfl
theorem fI_ePut (M : kx_M) (q : Nat) (c x : Int32) : fI (ePut M q c x) = fI M := by unfold ePut; split <;> rfl
theorem fR_ePut (M : kx_M) (q : Nat) (c x : Int32) : fR (ePut M q c x) = fR M := by unfold ePut; split <;> rfl
theorem mL_ePut (M : kx_M) (q : Nat) (c x : Int32) : mL (ePut M q c x) = mL M := by unfold ePut; split <;> rfl
theorem ln_ePut (M : kx_M) (q : Nat) (c x : Int32) : ln (ePut M q c x) = ln M := by unfold ePut; split <;> rfl
theorem bcv_eq (M : kx_M) (q : Nat) (c : Int32) : (if 0 ≤ c ∧ c < 3 then aI M q c.toNatClampNeg else 0) = bcv M q c := by unfold bcv; exact (Eq.trans rfl rfl)
/-- a lot brought: its grower's ByCultivar q, the row rl -/
def eBring (M : kx_M) (t q rl : Nat) (told mn : Int32) : kx_M := sL (sI (sI (sI (ePut M q (fI M 123 t) (bcv M q (fI M 123 t) + fI M 125 t)) 130 t told) 131 t mn) 129 t 1) rl (mL M rl ++ [t])
