/-! WHAT IS ASKED -/
/-- the i-th of a list of the hall is there, of kind kv -/
def pAt (M : kx_M) (m f kv : Nat) (i : Int32) : Prop := kd M m = 11 ∧ ∃ t x, fR M f m = some t ∧ kd M t = 1 ∧ 0 ≤ i ∧ i < Int32.ofNat (mL M t).length ∧ (mL M t)[i.toNatClampNeg]? = some x ∧ kd M x = kv
def el (M : kx_M) (f m : Nat) (i : Int32) : Nat := ((mL M (rf M f m))[i.toNatClampNeg]?).getD 0
def pByc (M : kx_M) (f a : Nat) : Prop := ∃ q, fR M f a = some q ∧ kd M q = 3
theorem kx_10 : ((1 : Int32) = 0) = False := by decide
def f2_X9_ofCrop (_ : kx_E) (av : List Value) (M : kx_M) : kx_F := match av with
  | [.ref m, .int i, .int w] => (pAt M m 201 5 i ∧ 0 ≤ w ∧ w ≤ 5, [.int (vCrop M (el M 201 m i) w)], M)
  | _ => (False, [], M)
def f2_X9_ofLot (_ : kx_E) (av : List Value) (M : kx_M) : kx_F := match av with
  | [.ref m, .int i, .int w] => (pAt M m 202 7 i ∧ 0 ≤ w ∧ w ≤ 9, [.int (vLot M (el M 202 m i) w)], M)
  | _ => (False, [], M)
def f2_X9_ofGrower (_ : kx_E) (av : List Value) (M : kx_M) : kx_F := match av with
  | [.ref m, .int i, .int w] => (pAt M m 200 6 i ∧ 0 ≤ w ∧ w ≤ 4 ∧ pByc M 100 (el M 200 m i), [.int (vGrower M (el M 200 m i) w)], M)
  | _ => (False, [], M)
def f2_X9_ofBuyer (_ : kx_E) (av : List Value) (M : kx_M) : kx_F := match av with
  | [.ref m, .int i, .int w] => (pAt M m 204 2 i ∧ 0 ≤ w ∧ w ≤ 8 ∧ pByc M 22 (el M 204 m i), [.int (vBuyer M (el M 204 m i) w)], M)
  | _ => (False, [], M)
def f2_X9_readyIn (_ : kx_E) (av : List Value) (M : kx_M) : kx_F := match av with
  | [.ref m, .int i] => (pAt M m 201 5 i ∧ ∃ g, fR M 80 (el M 201 m i) = some g ∧ kd M g = 6, [.int (vReady M m (el M 201 m i))], M)
  | _ => (False, [], M)
def f2_X9_row (_ : kx_E) (av : List Value) (M : kx_M) : kx_F := match av with
  | [.ref m, .int i] => (0 ≤ i ∧ kd M m = 11 ∧ (∃ t, fR M 203 m = some t ∧ kd M t = 1 ∧ (mL M t).length ≤ 1000 ∧ ∀ x ∈ mL M t, kd M x = 7), [.int (vRow M m i)], M)
  | _ => (False, [], M)
