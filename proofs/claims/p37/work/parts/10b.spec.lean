/-! WHAT THE CLASS'S SMALL METHODS DO -/
def vBuckets (x : Int32) : Int32 := x / 20 + (if x - x / 20 * 20 ≤ 0 then 0 else 1)
def vShare (x : Int32) : Int32 := x - x / 20
def vSum (c : Int32) : Int32 := if c = 0 then 60 else if c = 1 then 90 else 120
def vFresh (c : Int32) : Int32 := if c = 0 then 90 else if c = 1 then 70 else 110
def vLost (c : Int32) : Int32 := if c = 0 then 1 else if c = 1 then 3 else 6
def vIn (a b c : Int32) : Int32 := if a < b then 0 else if c < a then 0 else 1
def vCult (c : Int32) : Int32 := if c < 0 then 0 else if 3 ≤ c then 0 else 1
def vMax (x y : Int32) : Int32 := if x < y then y else x
def vMin (x y : Int32) : Int32 := if y < x then y else x
/-- a ByCultivar's number -/
def bcv (M : kx_M) (a : Nat) (c : Int32) : Int32 := if 0 ≤ c ∧ c < 3 then aI M a c.toNatClampNeg else 0
def rf (M : kx_M) (f a : Nat) : Nat := (fR M f a).getD 0
def f2_X9_isWithin (_ : kx_E) (av : List Value) (M : kx_M) : kx_F := match av with
  | [.int a, .int b, .int c] => (True, [.int (vIn a b c)], M)
  | _ => (False, [], M)
def f2_X9_isCultivar (_ : kx_E) (av : List Value) (M : kx_M) : kx_F := match av with
  | [.int c] => (True, [.int (vCult c)], M)
  | _ => (False, [], M)
def f2_X9_bucketsFor (_ : kx_E) (av : List Value) (M : kx_M) : kx_F := match av with
  | [.int x] => (True, [.int (vBuckets x)], M)
  | _ => (False, [], M)
def f2_X9_shareOfGrower (_ : kx_E) (av : List Value) (M : kx_M) : kx_F := match av with
  | [.int x] => (True, [.int (vShare x)], M)
  | _ => (False, [], M)
def f2_X9_sumAsked (_ : kx_E) (av : List Value) (M : kx_M) : kx_F := match av with
  | [.int x] => (True, [.int (vSum x)], M)
  | _ => (False, [], M)
def f2_X9_freshLife (_ : kx_E) (av : List Value) (M : kx_M) : kx_F := match av with
  | [.int x] => (True, [.int (vFresh x)], M)
  | _ => (False, [], M)
def f2_X9_lifeLostIn (_ : kx_E) (av : List Value) (M : kx_M) : kx_F := match av with
  | [.int x] => (True, [.int (vLost x)], M)
  | _ => (False, [], M)
def f2_X9_mixed (_ : kx_E) (av : List Value) (M : kx_M) : kx_F := match av with
  | [.long x, .long y] => (True, [.long (x * 31 + y)], M)
  | _ => (False, [], M)
def vBuyer (M : kx_M) (a : Nat) (w : Int32) : Int32 := if w = 0 then fI M 23 a else if w = 1 then fI M 21 a else if w = 2 then fI M 24 a else if w = 3 then fI M 25 a else if w = 7 then fI M 26 a else if w = 8 then fI M 27 a else bcv M (rf M 22 a) (w - 4)
def f2_X0_numberOf (_ : kx_E) (av : List Value) (M : kx_M) : kx_F := match av with
  | [.ref a, .int w] => (kd M a = 2 ∧ ∃ q, fR M 22 a = some q ∧ kd M q = 3, [.int (vBuyer M a w)], M)
  | _ => (False, [], M)
def vGrower (M : kx_M) (a : Nat) (w : Int32) : Int32 := if w = 0 then fI M 101 a else if w = 1 then fI M 102 a else if w = 2 then fI M 103 a else if w = 3 then fI M 104 a else 0 + aI M (rf M 100 a) 0 + aI M (rf M 100 a) 1 + aI M (rf M 100 a) 2
def f2_X4_numberOf (_ : kx_E) (av : List Value) (M : kx_M) : kx_F := match av with
  | [.ref a, .int w] => (kd M a = 6 ∧ ∃ q, fR M 100 a = some q ∧ kd M q = 3, [.int (vGrower M a w)], M)
  | _ => (False, [], M)
def vCrop (M : kx_M) (a : Nat) (w : Int32) : Int32 := if w = 0 then fI M 81 a else if w = 1 then fI M 82 a else if w = 2 then fI M 83 a else if w = 3 then fI M 84 a else if w = 4 then (if fI M 85 a = 0 then 0 else 1) else fI M 86 a
def f2_X3_numberOf (_ : kx_E) (av : List Value) (M : kx_M) : kx_F := match av with
  | [.ref a, .int w] => (kd M a = 5, [.int (vCrop M a w)], M)
  | _ => (False, [], M)
def vLot (M : kx_M) (a : Nat) (w : Int32) : Int32 := if w = 0 then fI M 122 a else if w = 1 then fI M 123 a else if w = 2 then fI M 125 a else if w = 3 then fI M 124 a else if w = 4 then fI M 126 a else if w = 5 then fI M 127 a else if w = 6 then fI M 128 a else if w = 7 then fI M 129 a else if w = 8 then fI M 130 a else fI M 131 a
def f2_X5_numberOf (_ : kx_E) (av : List Value) (M : kx_M) : kx_F := match av with
  | [.ref a, .int w] => (kd M a = 7, [.int (vLot M a w)], M)
  | _ => (False, [], M)
def vSale (M : kx_M) (a : Nat) (w : Int32) : Int32 := if w = 0 then fI M 120 (rf M 160 a) else if w = 1 then fI M 20 (rf M 161 a) else if w = 2 then fI M 163 a else if w = 3 then fI M 164 a else fI M 165 a
def f2_X7_numberOf (_ : kx_E) (av : List Value) (M : kx_M) : kx_F := match av with
  | [.ref a, .int w] => (kd M a = 9 ∧ (∃ q, fR M 160 a = some q ∧ kd M q = 7) ∧ ∃ q, fR M 161 a = some q ∧ kd M q = 2, [.int (vSale M a w)], M)
  | _ => (False, [], M)
/-! constructors -/
def f2_X0_init (_ : kx_E) (av : List Value) (M : kx_M) : kx_F := (False, [], M)
def vStamp (M : kx_M) (r o : Nat) : Int32 := fI M 65 r - fI M 145 o + fI M 29 (rf M 140 o)
def f2_X2_stampOf (_ : kx_E) (av : List Value) (M : kx_M) : kx_F := match av with
  | [.ref r, .ref o] => (kd M r = 4 ∧ kd M o = 8 ∧ ∃ b, fR M 140 o = some b ∧ kd M b = 2, [.int (vStamp M r o)], M)
  | _ => (False, [], M)
/-- whether an order fits the run -/
def vFits (M : kx_M) (r o : Nat) : Int32 := if fI M 147 o ≤ 0 then 0 else if fI M 30 (rf M 140 o) = 0 then (if fI M 141 o = fI M 60 r then (if fI M 142 o < fI M 61 r then 0 else if fI M 62 r < fI M 143 o then 0 else if fI M 63 r < fI M 144 o then 0 else 1) else 0) else 0
def f2_X2_fits (_ : kx_E) (av : List Value) (M : kx_M) : kx_F := match av with
  | [.ref r, .ref o] => (kd M r = 4 ∧ kd M o = 8 ∧ ∃ b, fR M 140 o = some b ∧ kd M b = 2, [.int (vFits M r o)], M)
  | _ => (False, [], M)
/-- whether an order told later is ahead -/
def vAhead (M : kx_M) (r o q : Nat) : Int32 := if vStamp M r o < vStamp M r q then 1 else if vStamp M r o = vStamp M r q then (if fI M 20 (rf M 140 o) < fI M 20 (rf M 140 q) then 1 else 0) else 0
def f2_X2_isAhead (_ : kx_E) (av : List Value) (M : kx_M) : kx_F := match av with
  | [.ref r, .ref o, .ref q] => (kd M r = 4 ∧ kd M o = 8 ∧ (∃ b, fR M 140 o = some b ∧ kd M b = 2) ∧ kd M q = 8 ∧ ∃ b, fR M 140 q = some b ∧ kd M b = 2, [.int (vAhead M r o q)], M)
  | _ => (False, [], M)
/-- a taking -/
def eTake (M : kx_M) (r o : Nat) (t p : Int32) : kx_M :=
  let b := rf M 140 o
  let k := vMin (vBuckets t) (fI M 67 r)
  sI (sI (sI (sI (sI (sI (sI M 68 r t) 69 r p) 147 o (fI M 147 o - t)) 28 b (fI M 28 b - (p * t + 2 * k))) 66 r (fI M 66 r - t)) 67 r (fI M 67 r - k)) 65 r (vMin 99 (p + 10))
def f2_X2_take (_ : kx_E) (av : List Value) (M : kx_M) : kx_F := match av with
  | [.ref r, .ref o, .int t, .int p] => (kd M r = 4 ∧ kd M o = 8 ∧ ∃ b, fR M 140 o = some b ∧ kd M b = 2, [], eTake M r o t p)
  | _ => (False, [], M)
/-! THE CLOCK'S RUN -/
def eBuyer (M : kx_M) (b : Nat) : kx_M := sI (sI (sI M 28 b (fI M 23 b)) 29 b (vMax 0 (fI M 21 b - fI M 24 b))) 30 b 0
def eOrder (M : kx_M) (o : Nat) : kx_M := sI M 147 o (fI M 146 o)
def eRun (M : kx_M) (r t : Nat) (told mn : Int32) : kx_M := sI (sI (sI (sI (sI (sI (sI (sI M 60 r (fI M 123 t)) 61 r (fI M 124 t)) 62 r (vMin told (fI M 126 t))) 63 r (fI M 103 (rf M 121 t))) 64 r mn) 65 r 99) 66 r (fI M 125 t)) 67 r (fI M 127 t)
def eBegin (M : kx_M) (r t : Nat) (told mn : Int32) (bl ol : Nat) : kx_M := (mL M ol).foldl eOrder ((mL M bl).foldl eBuyer (eRun M r t told mn))
def pOrder (M : kx_M) (o : Nat) : Prop := kd M o = 8 ∧ ∃ b, fR M 140 o = some b ∧ kd M b = 2
def f2_X2_begin (_ : kx_E) (av : List Value) (M : kx_M) : kx_F := match av with
  | [.ref r, .ref t, .int told, .int mn, .ref bl, .ref ol] => (kd M r = 4 ∧ kd M t = 7 ∧ (∃ g, fR M 121 t = some g ∧ kd M g = 6) ∧ kd M bl = 1 ∧ kd M ol = 1 ∧ (mL M bl).length ≤ 1000 ∧ (mL M ol).length ≤ 1000 ∧ (∀ b ∈ mL M bl, kd M b = 2) ∧ (∀ o ∈ mL M ol, kd M o = 8), [], eBegin M r t told mn bl ol)
  | _ => (False, [], M)
/-- the order that presses first, of a list -/
def vFirst1 (M : kx_M) (r : Nat) (f : Option Nat) (o : Nat) : Option Nat := if vFits M r o = 0 then f else match f with
  | none => some o
  | some q => if vAhead M r o q = 0 then some q else some o
def vFirst (M : kx_M) (r : Nat) (l : List Nat) : Option Nat := l.foldl (vFirst1 M r) none
def f2_X2_firstToPress (_ : kx_E) (av : List Value) (M : kx_M) : kx_F := match av with
  | [.ref r, .ref ol] => (kd M r = 4 ∧ kd M ol = 1 ∧ (mL M ol).length ≤ 1000 ∧ ∀ o ∈ mL M ol, pOrder M o, [va_rf (vFirst M r (mL M ol))], M)
  | _ => (False, [], M)
/-- the price at which an order presses; how much it takes -/
def vPrice (M : kx_M) (r o : Nat) : Int32 := fI M 65 r - vStamp M r o
def vTaken (M : kx_M) (r o : Nat) : Int32 := vMin (fI M 28 (rf M 140 o) / vPrice M r o) (vMin (fI M 147 o) (fI M 66 r))
/-- the next taker, in at most n turns -/
def vNext (r : Nat) (l : List Nat) : Nat → kx_M → Option Nat × kx_M
  | 0, M => (none, M)
  | n + 1, M => match vFirst M r l with
    | none => (none, M)
    | some o => if fI M 66 r < 1 then (none, M) else if vPrice M r o < fI M 64 r ∨ vPrice M r o < 1 then (none, M) else if 0 < vTaken M r o then (some o, eTake M r o (vTaken M r o) (vPrice M r o)) else vNext r l n (sI M 30 (rf M 140 o) 1)
def f2_X2_nextTaker (_ : kx_E) (av : List Value) (M : kx_M) : kx_F := match av with
  | [.ref r, .ref ol] => (kd M r = 4 ∧ kd M ol = 1 ∧ (mL M ol).length ≤ 1000 ∧ ∀ o ∈ mL M ol, pOrder M o, [va_rf (vNext r (mL M ol) 5 M).1], (vNext r (mL M ol) 5 M).2)
  | _ => (False, [], M)
