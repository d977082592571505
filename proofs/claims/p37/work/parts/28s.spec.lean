/-! SMALL DEEDS -/
def f2_X9_lamps (_ : kx_E) (av : List Value) (M : kx_M) : kx_F := match av with
  | [.ref m, .int i, .int x] => (pAt M m 200 6 i ∧ 0 ≤ x ∧ x ≤ 3, [.int (fI M 102 (el M 200 m i))], sI M 102 (el M 200 m i) x)
  | _ => (False, [], M)
def f2_X9_even (_ : kx_E) (av : List Value) (M : kx_M) : kx_F := match av with
  | [.ref m, .int i, .int x] => (pAt M m 204 2 i ∧ 0 ≤ x ∧ x ≤ 9, [.int (fI M 24 (el M 204 m i))], sI M 24 (el M 204 m i) x)
  | _ => (False, [], M)
def f2_X9_leave (_ : kx_E) (av : List Value) (M : kx_M) : kx_F := match av with
  | [.ref m, .int i, .int x] => (pAt M m 204 2 i ∧ (-1) ≤ x ∧ x ≤ 9999, [.int (fI M 25 (el M 204 m i))], sI M 25 (el M 204 m i) x)
  | _ => (False, [], M)
def eClear (M : kx_M) (m t g : Nat) (gv : Int32) : kx_M :=
  let M1 := sI (sI (sI (sI (sI M 215 m (fI M 215 m + fI M 125 t)) 212 m (fI M 212 m + fI M 127 t)) 125 t 0) 127 t 0) 129 t 3
  if gv = 0 then M1 else sI M1 103 g (vMin 100 (fI M 103 g + 1))
def f2_X9_clear (_ : kx_E) (av : List Value) (M : kx_M) : kx_F := match av with
  | [.ref m, .int i, .int gv] => (pAt M m 202 7 i ∧ fI M 129 (el M 202 m i) = 0 ∧ ∃ g, fR M 121 (el M 202 m i) = some g ∧ kd M g = 6, [.int (fI M 125 (el M 202 m i))], eClear M m (el M 202 m i) (rf M 121 (el M 202 m i)) gv)
  | _ => (False, [], M)
def eBack (M : kx_M) (m b : Nat) (x : Int32) : kx_M := sI (sI (sI (sI M 26 b (fI M 26 b - x)) 212 m (fI M 212 m + x)) 23 b (fI M 23 b + x * 2)) 214 m (fI M 214 m - x * 2)
def f2_X9_back (_ : kx_E) (av : List Value) (M : kx_M) : kx_F := match av with
  | [.ref m, .int i, .int x] => (pAt M m 204 2 i ∧ 1 ≤ x ∧ x ≤ fI M 26 (el M 204 m i), [.int (fI M 212 m + x)], eBack M m (el M 204 m i) x)
  | _ => (False, [], M)
def eInspect (M : kx_M) (t g : Nat) : kx_M := if fI M 130 t ≤ fI M 126 t then sI M 103 g (vMin 100 (fI M 103 g + 2)) else sI (sI M 103 g (vMax 0 (fI M 103 g - 10))) 130 t (fI M 126 t)
def f2_X9_inspect (_ : kx_E) (av : List Value) (M : kx_M) : kx_F := match av with
  | [.ref m, .int i] => (pAt M m 202 7 i ∧ fI M 129 (el M 202 m i) = 1 ∧ ∃ g, fR M 121 (el M 202 m i) = some g ∧ kd M g = 6, [.int (fI (eInspect M (el M 202 m i) (rf M 121 (el M 202 m i))) 103 (rf M 121 (el M 202 m i)))], eInspect M (el M 202 m i) (rf M 121 (el M 202 m i)))
  | _ => (False, [], M)
