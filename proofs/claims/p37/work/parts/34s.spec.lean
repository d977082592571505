/-! AN HOUR -/
def eDay (M : kx_M) (g : Nat) : kx_M := sA (sA (sA M (rf M 100 g) 0 0) (rf M 100 g) 1 0) (rf M 100 g) 2 0
def pGros (M : kx_M) (m : Nat) : Prop := kd M m = 11 ∧ ∃ t, fR M 200 m = some t ∧ kd M t = 1 ∧ (mL M t).length ≤ 1000 ∧ ∀ g ∈ mL M t, kd M g = 6 ∧ ∃ q, fR M 100 g = some q ∧ kd M q = 3
def f2_X9_beginDay (_ : kx_E) (av : List Value) (M : kx_M) : kx_F := match av with
  | [.ref m] => (pGros M m, [], (mL M (rf M 200 m)).foldl eDay M)
  | _ => (False, [], M)
def eGrowC (m : Nat) (M : kx_M) (c : Nat) : kx_M := eGrow M c (fI M 211 m + fI M 102 (rf M 80 c))
def pCrops (M : kx_M) (m : Nat) : Prop := kd M m = 11 ∧ ∃ t, fR M 201 m = some t ∧ kd M t = 1 ∧ (mL M t).length ≤ 1000 ∧ ∀ c ∈ mL M t, kd M c = 5 ∧ ∃ g, fR M 80 c = some g ∧ kd M g = 6
def f2_X9_growCrops (_ : kx_E) (av : List Value) (M : kx_M) : kx_F := match av with
  | [.ref m] => (pCrops M m, [], (mL M (rf M 201 m)).foldl (eGrowC m) M)
  | _ => (False, [], M)
def ePay (M : kx_M) (g : Nat) : kx_M := sI M 101 g (fI M 101 g - fI M 102 g)
def f2_X9_payForLamps (_ : kx_E) (av : List Value) (M : kx_M) : kx_F := match av with
  | [.ref m] => (pGros M m, [], (mL M (rf M 200 m)).foldl ePay M)
  | _ => (False, [], M)
def eLose (M : kx_M) (x : Nat) : kx_M := if fI M 125 x ≤ 0 then M else sI M 126 x (vMax 0 (fI M 126 x - vLost (fI M 128 x)))
def eLoseT (M : kx_M) (q : Nat) : kx_M := sI M 183 q (vMax 0 (fI M 183 q - 3))
def pLots (M : kx_M) (m : Nat) : Prop := kd M m = 11 ∧ ∃ t, fR M 202 m = some t ∧ kd M t = 1 ∧ (mL M t).length ≤ 1000 ∧ ∀ x ∈ mL M t, kd M x = 7
def pRail (M : kx_M) (m : Nat) : Prop := kd M m = 11 ∧ ∃ t, fR M 206 m = some t ∧ kd M t = 1 ∧ (mL M t).length ≤ 1000 ∧ ∀ q ∈ mL M t, kd M q = 10 ∧ ∃ b, fR M 180 q = some b ∧ kd M b = 2 ∧ ∃ s, fR M 22 b = some s ∧ kd M s = 3
def f2_X9_loseLife (_ : kx_E) (av : List Value) (M : kx_M) : kx_F := match av with
  | [.ref m] => (pLots M m ∧ pRail M m, [], (mL M (rf M 206 m)).foldl eLoseT ((mL M (rf M 202 m)).foldl eLose M))
  | _ => (False, [], M)
/-- the place on the rail of the next trolley: (i, place, smallest hour) -/
def vNr1 (M : kx_M) (s : Nat × Nat × Int32) (q : Nat) : Nat × Nat × Int32 := if fI M 25 (rf M 180 q) = -1 then (s.1 + 1, s.2) else if s.2.2 ≤ fI M 25 (rf M 180 q) then (s.1 + 1, s.2) else (s.1 + 1, s.1, fI M 25 (rf M 180 q))
def vNr (M : kx_M) (l : List Nat) : Nat := (l.foldl (vNr1 M) (0, 0, 10000)).2.1
def f2_X9_nextOnRail (_ : kx_E) (av : List Value) (M : kx_M) : kx_F := match av with
  | [.ref m] => (pRail M m, [.int (nI (vNr M (mL M (rf M 206 m))))], M)
  | _ => (False, [], M)
def eUnload (M : kx_M) (m q : Nat) : kx_M := if fI M 25 (rf M 180 q) = -1 then ePut M (rf M 22 (rf M 180 q)) (fI M 181 q) (bcv M (rf M 22 (rf M 180 q)) (fI M 181 q) + fI M 182 q) else if fI M 210 m ≤ fI M 25 (rf M 180 q) then ePut M (rf M 22 (rf M 180 q)) (fI M 181 q) (bcv M (rf M 22 (rf M 180 q)) (fI M 181 q) + fI M 182 q) else sI M 215 m (fI M 215 m + fI M 182 q)
def f2_X9_unload (_ : kx_E) (av : List Value) (M : kx_M) : kx_F := match av with
  | [.ref m, .ref q] => (kd M m = 11 ∧ kd M q = 10 ∧ ∃ b, fR M 180 q = some b ∧ kd M b = 2 ∧ ∃ s, fR M 22 b = some s ∧ kd M s = 3, [], eUnload M m q)
  | _ => (False, [], M)
/-! A BOUQUET -/
def vOne (M : kx_M) (s : Nat) : Int32 := vMin 2 (aI M s 1)
def vTwo (M : kx_M) (s : Nat) : Int32 := vMin 1 (aI M s 2)
def vZero (M : kx_M) (s : Nat) : Int32 := 3 + 2 * (2 - vOne M s) + 2 * (1 - vTwo M s)
def eBindOne (M : kx_M) (s : Nat) : kx_M := sA (sA (sA M s 0 (aI M s 0 - vZero M s)) s 1 (aI M s 1 - vOne M s)) s 2 (aI M s 2 - vTwo M s)
def f2_X9_bindsOne (_ : kx_E) (av : List Value) (M : kx_M) : kx_F := match av with
  | [.ref s] => (kd M s = 3, [.int (if aI M s 0 < vZero M s then 0 else 1)], if aI M s 0 < vZero M s then M else eBindOne M s)
  | _ => (False, [], M)
/-- the fewest lamps -/
def vFew1 (M : kx_M) (m : Nat) (c h : Int32) (x : Int32) : Prop := vSum c ≤ (fI M 211 m + x) * h
def vFew (M : kx_M) (m : Nat) (c h : Int32) : Int32 := if (fI M 211 m + 0) * h < vSum c then (if (fI M 211 m + (0 + 1)) * h < vSum c then (if (fI M 211 m + (0 + 1 + 1)) * h < vSum c then (if (fI M 211 m + (0 + 1 + 1 + 1)) * h < vSum c then -1 else 0 + 1 + 1 + 1) else 0 + 1 + 1) else 0 + 1) else 0
def f2_X9_fewestLamps (_ : kx_E) (av : List Value) (M : kx_M) : kx_F := match av with
  | [.ref m, .int c, .int h] => (kd M m = 11, [.int (vFew M m c h)], M)
  | _ => (False, [], M)
/-- a sale told -/
def pSaleAt (M : kx_M) (s : Nat) : Prop := kd M s = 9 ∧ (∃ q, fR M 160 s = some q ∧ kd M q = 7) ∧ ∃ q, fR M 161 s = some q ∧ kd M q = 2
def f2_X9_sale (_ : kx_E) (av : List Value) (M : kx_M) : kx_F := match av with
  | [.ref m, .int k, .int w] => (kd M m = 11 ∧ (∃ t s, fR M 207 m = some t ∧ kd M t = 1 ∧ 0 ≤ k ∧ k < Int32.ofNat (mL M t).length ∧ 0 ≤ Int32.ofNat (mL M t).length - 1 - k ∧ Int32.ofNat (mL M t).length - 1 - k < Int32.ofNat (mL M t).length ∧ (mL M t)[(Int32.ofNat (mL M t).length - 1 - k).toNatClampNeg]? = some s ∧ pSaleAt M s) ∧ 0 ≤ w ∧ w ≤ 4, [.int (vSale M (el M 207 m (Int32.ofNat (mL M (rf M 207 m)).length - 1 - k)) w)], M)
  | _ => (False, [], M)
