/-! WHAT THE METHODS DO, as functions of the memory: condition, answer, memory -/
abbrev kx_F : Type := Prop × List Value × kx_M
def f2_X1_init (_ : kx_E) (av : List Value) (M : kx_M) : kx_F := match av with
  | [.ref a, .int x] => (kd M a = 13, [], sKd (sA (sA (sA M a 0 x) a 1 x) a 2 x) a 3)
  | _ => (False, [], M)
def f2_X1_of (_ : kx_E) (av : List Value) (M : kx_M) : kx_F := match av with
  | [.ref a, .int c] => (kd M a = 3, [.int (if 0 ≤ c ∧ c < 3 then aI M a c.toNatClampNeg else 0)], M)
  | _ => (False, [], M)
def f2_X1_put (_ : kx_E) (av : List Value) (M : kx_M) : kx_F := match av with
  | [.ref a, .int c, .int x] => (kd M a = 3, [], if 0 ≤ c ∧ c < 3 then sA M a c.toNatClampNeg x else M)
  | _ => (False, [], M)
def f2_X1_putAll (_ : kx_E) (av : List Value) (M : kx_M) : kx_F := match av with
  | [.ref a, .int x] => (kd M a = 3, [], sA (sA (sA M a 0 x) a 1 x) a 2 x)
  | _ => (False, [], M)
def f2_X1_total (_ : kx_E) (av : List Value) (M : kx_M) : kx_F := match av with
  | [.ref a] => (kd M a = 3, [.int (0 + aI M a 0 + aI M a 1 + aI M a 2)], M)
  | _ => (False, [], M)
def f2_Jx4a65c_init_da8c8 (_ : kx_E) (av : List Value) (M : kx_M) : kx_F := match av with
  | [.ref a] => (kd M a = 12, [], sKd (sL M a []) a 1)
  | _ => (False, [], M)
def f2_Jx4a65c_size_8abf5 (_ : kx_E) (av : List Value) (M : kx_M) : kx_F := match av with
  | [.ref a] => (kd M a = 1, [.int (Int32.ofNat (mL M a).length)], M)
  | _ => (False, [], M)
def f2_Jx4a65c_isEmpty_aae02 (_ : kx_E) (av : List Value) (M : kx_M) : kx_F := match av with
  | [.ref a] => (kd M a = 1, [.int (if (mL M a).length = 0 then 1 else 0)], M)
  | _ => (False, [], M)
def f2_Jx4a65c_get_915e3 (_ : kx_E) (av : List Value) (M : kx_M) : kx_F := match av with
  | [.ref a, .int i] => (kd M a = 1 ∧ 0 ≤ i ∧ i < Int32.ofNat (mL M a).length, [va_rf (mL M a)[i.toNatClampNeg]?], M)
  | _ => (False, [], M)
def f2_Jx4a65c_add_9ea2d (_ : kx_E) (av : List Value) (M : kx_M) : kx_F := match av with
  | [.ref a, .ref x] => (kd M a = 1 ∧ (mL M a).length ≤ 1000 ∧ 2 ≤ kd M x ∧ kd M x ≤ 11, [.int 1], sL M a (mL M a ++ [x]))
  | _ => (False, [], M)
def f2_Jx4a65c_remove_915e3 (_ : kx_E) (av : List Value) (M : kx_M) : kx_F := match av with
  | [.ref a, .int i] => (kd M a = 1 ∧ 0 ≤ i ∧ i < Int32.ofNat (mL M a).length, [va_rf (mL M a)[i.toNatClampNeg]?], sL M a ((mL M a).eraseIdx i.toNatClampNeg))
  | _ => (False, [], M)
