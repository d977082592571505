/-! WHO IS MEANT, and what is told of the hall -/
def f2_X9_growerAt (_ : kx_E) (av : List Value) (M : kx_M) : kx_F := match av with
  | [.ref m, .int i] => (kd M m = 11 ∧ (∃ t, fR M 200 m = some t ∧ kd M t = 1) ∧ 0 ≤ i ∧ i < Int32.ofNat (mL M (rf M 200 m)).length ∧ ∀ x, (mL M (rf M 200 m))[i.toNatClampNeg]? = some x → kd M x = 6, [va_rf (mL M (rf M 200 m))[i.toNatClampNeg]?], M)
  | _ => (False, [], M)
def f2_X9_cropAt (_ : kx_E) (av : List Value) (M : kx_M) : kx_F := match av with
  | [.ref m, .int i] => (kd M m = 11 ∧ (∃ t, fR M 201 m = some t ∧ kd M t = 1) ∧ 0 ≤ i ∧ i < Int32.ofNat (mL M (rf M 201 m)).length ∧ ∀ x, (mL M (rf M 201 m))[i.toNatClampNeg]? = some x → kd M x = 5, [va_rf (mL M (rf M 201 m))[i.toNatClampNeg]?], M)
  | _ => (False, [], M)
def f2_X9_lotAt (_ : kx_E) (av : List Value) (M : kx_M) : kx_F := match av with
  | [.ref m, .int i] => (kd M m = 11 ∧ (∃ t, fR M 202 m = some t ∧ kd M t = 1) ∧ 0 ≤ i ∧ i < Int32.ofNat (mL M (rf M 202 m)).length ∧ ∀ x, (mL M (rf M 202 m))[i.toNatClampNeg]? = some x → kd M x = 7, [va_rf (mL M (rf M 202 m))[i.toNatClampNeg]?], M)
  | _ => (False, [], M)
def f2_X9_buyerAt (_ : kx_E) (av : List Value) (M : kx_M) : kx_F := match av with
  | [.ref m, .int i] => (kd M m = 11 ∧ (∃ t, fR M 204 m = some t ∧ kd M t = 1) ∧ 0 ≤ i ∧ i < Int32.ofNat (mL M (rf M 204 m)).length ∧ ∀ x, (mL M (rf M 204 m))[i.toNatClampNeg]? = some x → kd M x = 2, [va_rf (mL M (rf M 204 m))[i.toNatClampNeg]?], M)
  | _ => (False, [], M)
/-- the number of the lot at a place of the row -/
def vRow (M : kx_M) (m : Nat) (i : Int32) : Int32 := if i < 0 then -1 else if Int32.ofNat (mL M (rf M 203 m)).length ≤ i then -1 else match (mL M (rf M 203 m))[i.toNatClampNeg]? with
  | some x => fI M 120 x
  | none => -1
def f2_X9_lotInRow (_ : kx_E) (av : List Value) (M : kx_M) : kx_F := match av with
  | [.ref m, .int i] => (kd M m = 11 ∧ (∃ t, fR M 203 m = some t ∧ kd M t = 1 ∧ (mL M t).length ≤ 1000 ∧ ∀ x ∈ mL M t, kd M x = 7), [.int (vRow M m i)], M)
  | _ => (False, [], M)
/-- in how many hours a crop would be ready -/
def vReady (M : kx_M) (m c : Nat) : Int32 := if fI M 85 c = 0 then (if fI M 211 m + fI M 102 (rf M 80 c) < 1 then -1 else (vSum (fI M 82 c) - fI M 84 c + (fI M 211 m + fI M 102 (rf M 80 c)) - 1) / (fI M 211 m + fI M 102 (rf M 80 c))) else 0
def f2_X9_hoursUntilReady (_ : kx_E) (av : List Value) (M : kx_M) : kx_F := match av with
  | [.ref m, .ref c] => (kd M m = 11 ∧ kd M c = 5 ∧ ∃ g, fR M 80 c = some g ∧ kd M g = 6, [.int (vReady M m c)], M)
  | _ => (False, [], M)
