/-! WHAT WOULD BE, asked by a lot's number; what is told of the hall -/
def f2_X9_wouldFetch (_ : kx_E) (av : List Value) (M : kx_M) : kx_F := match av with
  | [.ref m, .int i] => (pAt M m 202 7 i ∧ pRun M m (el M 202 m i), [.int (match (vTake1 M m (eAsk M m (el M 202 m i))).1 with
    | none => -1
    | some _ => fI (vTake1 M m (eAsk M m (el M 202 m i))).2 69 (rf M 209 m))], (vTake1 M m (eAsk M m (el M 202 m i))).2)
  | _ => (False, [], M)
def f2_X9_bestMinimum (_ : kx_E) (av : List Value) (M : kx_M) : kx_F := match av with
  | [.ref m, .int i] => (pAt M m 202 7 i ∧ pRun M m (el M 202 m i), [.int (vLow M m 200 99 (eAsk M m (el M 202 m i))).1], (vLow M m 200 99 (eAsk M m (el M 202 m i))).2)
  | _ => (False, [], M)
def vLeast (M : kx_M) (l : List Nat) : Int32 := l.foldl (fun x q => vMin x (fI M 183 q)) 110
def vLeastR (M : kx_M) (m : Nat) : Int32 := if (mL M (rf M 206 m)).length = 0 then -1 else vLeast M (mL M (rf M 206 m))
def f2_X9_leastLifeOnRail (_ : kx_E) (av : List Value) (M : kx_M) : kx_F := match av with
  | [.ref m] => (kd M m = 11 ∧ ∃ t, fR M 206 m = some t ∧ kd M t = 1 ∧ (mL M t).length ≤ 1000 ∧ ∀ x ∈ mL M t, kd M x = 10, [.int (vLeastR M m)], M)
  | _ => (False, [], M)
