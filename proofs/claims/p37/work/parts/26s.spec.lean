/-! WHAT IS TOLD OF THE HALL -/
def pList (M : kx_M) (m f : Nat) : Prop := ∃ t, fR M f m = some t ∧ kd M t = 1
def pHall (M : kx_M) (m : Nat) : Prop := kd M m = 11 ∧ pList M m 200 ∧ pList M m 201 ∧ pList M m 202 ∧ pList M m 203 ∧ pList M m 204 ∧ pList M m 205 ∧ (∃ t, fR M 206 m = some t ∧ kd M t = 1 ∧ (mL M t).length ≤ 1000 ∧ ∀ x ∈ mL M t, kd M x = 10) ∧ pByc M 208 m
def vLen (M : kx_M) (f m : Nat) : Int32 := Int32.ofNat (mL M (rf M f m)).length
def vHall (M : kx_M) (m : Nat) (w : Int32) : Int32 := if w = 0 then fI M 210 m else if w = 1 then vLen M 200 m else if w = 2 then vLen M 201 m else if w = 3 then vLen M 202 m else if w = 4 then vLen M 204 m else if w = 5 then vLen M 205 m else if w = 6 then vLen M 203 m else if w = 7 then vLen M 206 m else if w = 8 then fI M 212 m else if w = 9 then fI M 214 m else if w = 10 then fI M 215 m else if w = 11 then fI M 216 m else if w = 15 then vLeastR M m else bcv M (rf M 208 m) (w - 12)
def f2_X9_numberOfHall (_ : kx_E) (av : List Value) (M : kx_M) : kx_F := match av with
  | [.ref m, .int w] => (pHall M m, [.int (vHall M m w)], M)
  | _ => (False, [], M)
def f2_X9_many (_ : kx_E) (av : List Value) (M : kx_M) : kx_F := match av with
  | [.ref m, .int w] => (pHall M m ∧ 0 ≤ w ∧ w ≤ 15, [.int (vHall M m w)], M)
  | _ => (False, [], M)
