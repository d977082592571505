/-! WHAT THE CLASS'S SMALL METHODS DO -/
def vBuckets (x : Int32) : Int32 := x / 20 + (if x - x / 20 * 20 ≤ 0 then 0 else 1)
def vShare (x : Int32) : Int32 := x - x / 20
def vSum (c : Int32) : Int32 := if c = 0 then 60 else if c = 1 then 90 else 120
def vFresh (c : Int32) : Int32 := if c = 0 then 90 else if c = 1 then 70 else 110
def vLost (c : Int32) : Int32 := if c = 0 then 1 else if c = 1 then 3 else 6
def vIn (a b c : Int32) : Int32 := if a < b then 0 else if c < a then 0 else 1
def vCult (c : Int32) : Int32 := if c < 0 then 0 else if 3 ≤ c then 0 else 1
def vMax (x y : Int32) : Int32 := if x < y then y else x
def vMin (x y : Int32) : Int32 := if y < x then y else x
/-- a ByCultivar's number -/
def bcv (M : kx_M) (a : Nat) (c : Int32) : Int32 := if 0 ≤ c ∧ c < 3 then aI M a c.toNatClampNeg else 0
def rf (M : kx_M) (f a : Nat) : Nat := (fR M f a).getD 0
def f2_X9_isWithin (_ : kx_E) (av : List Value) (M : kx_M) : kx_F := match av with
  | [.int a, .int b, .int c] => (True, [.int (vIn a b c)], M)
  | _ => (False, [], M)
def f2_X9_isCultivar (_ : kx_E) (av : List Value) (M : kx_M) : kx_F := match av with
  | [.int c] => (True, [.int (vCult c)], M)
  | _ => (False, [], M)
def f2_X9_bucketsFor (_ : kx_E) (av : List Value) (M : kx_M) : kx_F := match av with
  | [.int x] => (True, [.int (vBuckets x)], M)
  | _ => (False, [], M)
def f2_X9_shareOfGrower (_ : kx_E) (av : List Value) (M : kx_M) : kx_F := match av with
  | [.int x] => (True, [.int (vShare x)], M)
  | _ => (False, [], M)
def f2_X9_sumAsked (_ : kx_E) (av : List Value) (M : kx_M) : kx_F := match av with
  | [.int x] => (True, [.int (vSum x)], M)
  | _ => (False, [], M)
def f2_X9_freshLife (_ : kx_E) (av : List Value) (M : kx_M) : kx_F := match av with
  | [.int x] => (True, [.int (vFresh x)], M)
  | _ => (False, [], M)
def f2_X9_lifeLostIn (_ : kx_E) (av : List Value) (M : kx_M) : kx_F := match av with
  | [.int x] => (True, [.int (vLost x)], M)
  | _ => (False, [], M)
def f2_X9_mixed (_ : kx_E) (av : List Value) (M : kx_M) : kx_F := match av with
  | [.long x, .long y] => (True, [.long (x * 31 + y)], M)
  | _ => (False, [], M)
def vBuyer (M : kx_M) (a : Nat) (w : Int32) : Int32 := if w = 0 then fI M 23 a else if w = 1 then fI M 21 a else if w = 2 then fI M 24 a else if w = 3 then fI M 25 a else if w = 7 then fI M 26 a else if w = 8 then fI M 27 a else bcv M (rf M 22 a) (w - 4)
def f2_X0_numberOf (_ : kx_E) (av : List Value) (M : kx_M) : kx_F := match av with
  | [.ref a, .int w] => (kd M a = 2 ∧ ∃ q, fR M 22 a = some q ∧ kd M q = 3, [.int (vBuyer M a w)], M)
  | _ => (False, [], M)
def vGrower (M : kx_M) (a : Nat) (w : Int32) : Int32 := if w = 0 then fI M 101 a else if w = 1 then fI M 102 a else if w = 2 then fI M 103 a else if w = 3 then fI M 104 a else 0 + aI M (rf M 100 a) 0 + aI M (rf M 100 a) 1 + aI M (rf M 100 a) 2
def f2_X4_numberOf (_ : kx_E) (av : List Value) (M : kx_M) : kx_F := match av with
  | [.ref a, .int w] => (kd M a = 6 ∧ ∃ q, fR M 100 a = some q ∧ kd M q = 3, [.int (vGrower M a w)], M)
  | _ => (False, [], M)
def vCrop (M : kx_M) (a : Nat) (w : Int32) : Int32 := if w = 0 then fI M 81 a else if w = 1 then fI M 82 a else if w = 2 then fI M 83 a else if w = 3 then fI M 84 a else if w = 4 then (if fI M 85 a = 0 then 0 else 1) else fI M 86 a
def f2_X3_numberOf (_ : kx_E) (av : List Value) (M : kx_M) : kx_F := match av with
  | [.ref a, .int w] => (kd M a = 5, [.int (vCrop M a w)], M)
  | _ => (False, [], M)
def vLot (M : kx_M) (a : Nat) (w : Int32) : Int32 := if w = 0 then fI M 122 a else if w = 1 then fI M 123 a else if w = 2 then fI M 125 a else if w = 3 then fI M 124 a else if w = 4 then fI M 126 a else if w = 5 then fI M 127 a else if w = 6 then fI M 128 a else if w = 7 then fI M 129 a else if w = 8 then fI M 130 a else fI M 131 a
def f2_X5_numberOf (_ : kx_E) (av : List Value) (M : kx_M) : kx_F := match av with
  | [.ref a, .int w] => (kd M a = 7, [.int (vLot M a w)], M)
  | _ => (False, [], M)
def vSale (M : kx_M) (a : Nat) (w : Int32) : Int32 := if w = 0 then fI M 120 (rf M 160 a) else if w = 1 then fI M 20 (rf M 161 a) else if w = 2 then fI M 163 a else if w = 3 then fI M 164 a else fI M 165 a
def f2_X7_numberOf (_ : kx_E) (av : List Value) (M : kx_M) : kx_F := match av with
  | [.ref a, .int w] => (kd M a = 9 ∧ (∃ q, fR M 160 a = some q ∧ kd M q = 7) ∧ ∃ q, fR M 161 a = some q ∧ kd M q = 2, [.int (vSale M a w)], M)
  | _ => (False, [], M)
/-! constructors -/
def f2_X0_init (_ : kx_E) (av : List Value) (M : kx_M) : kx_F := (False, [], M)
def vStamp (M : kx_M) (r o : Nat) : Int32 := fI M 65 r - fI M 145 o + fI M 29 (rf M 140 o)
def f2_X2_stampOf (_ : kx_E) (av : List Value) (M : kx_M) : kx_F := match av with
  | [.ref r, .ref o] => (kd M r = 4 ∧ kd M o = 8 ∧ ∃ b, fR M 140 o = some b ∧ kd M b = 2, [.int (vStamp M r o)], M)
  | _ => (False, [], M)
/-- whether an order fits the run -/
def vFits (M : kx_M) (r o : Nat) : Int32 := if fI M 147 o ≤ 0 then 0 else if fI M 30 (rf M 140 o) = 0 then (if fI M 141 o = fI M 60 r then (if fI M 142 o < fI M 61 r then 0 else if fI M 62 r < fI M 143 o then 0 else if fI M 63 r < fI M 144 o then 0 else 1) else 0) else 0
def f2_X2_fits (_ : kx_E) (av : List Value) (M : kx_M) : kx_F := match av with
  | [.ref r, .ref o] => (kd M r = 4 ∧ kd M o = 8 ∧ ∃ b, fR M 140 o = some b ∧ kd M b = 2, [.int (vFits M r o)], M)
  | _ => (False, [], M)
/-- whether an order told later is ahead -/
def vAhead (M : kx_M) (r o q : Nat) : Int32 := if vStamp M r o < vStamp M r q then 1 else if vStamp M r o = vStamp M r q then (if fI M 20 (rf M 140 o) < fI M 20 (rf M 140 q) then 1 else 0) else 0
def f2_X2_isAhead (_ : kx_E) (av : List Value) (M : kx_M) : kx_F := match av with
  | [.ref r, .ref o, .ref q] => (kd M r = 4 ∧ kd M o = 8 ∧ (∃ b, fR M 140 o = some b ∧ kd M b = 2) ∧ kd M q = 8 ∧ ∃ b, fR M 140 q = some b ∧ kd M b = 2, [.int (vAhead M r o q)], M)
  | _ => (False, [], M)
/-- a taking -/
def eTake (M : kx_M) (r o : Nat) (t p : Int32) : kx_M :=
  let b := rf M 140 o
  let k := vMin (vBuckets t) (fI M 67 r)
  sI (sI (sI (sI (sI (sI (sI M 68 r t) 69 r p) 147 o (fI M 147 o - t)) 28 b (fI M 28 b - (p * t + 2 * k))) 66 r (fI M 66 r - t)) 67 r (fI M 67 r - k)) 65 r (vMin 99 (p + 10))
def f2_X2_take (_ : kx_E) (av : List Value) (M : kx_M) : kx_F := match av with
  | [.ref r, .ref o, .int t, .int p] => (kd M r = 4 ∧ kd M o = 8 ∧ ∃ b, fR M 140 o = some b ∧ kd M b = 2, [], eTake M r o t p)
  | _ => (False, [], M)
/-! THE CLOCK'S RUN -/
def eBuyer (M : kx_M) (b : Nat) : kx_M := sI (sI (sI M 28 b (fI M 23 b)) 29 b (vMax 0 (fI M 21 b - fI M 24 b))) 30 b 0
def eOrder (M : kx_M) (o : Nat) : kx_M := sI M 147 o (fI M 146 o)
def eRun (M : kx_M) (r t : Nat) (told mn : Int32) : kx_M := sI (sI (sI (sI (sI (sI (sI (sI M 60 r (fI M 123 t)) 61 r (fI M 124 t)) 62 r (vMin told (fI M 126 t))) 63 r (fI M 103 (rf M 121 t))) 64 r mn) 65 r 99) 66 r (fI M 125 t)) 67 r (fI M 127 t)
def eBegin (M : kx_M) (r t : Nat) (told mn : Int32) (bl ol : Nat) : kx_M := (mL M ol).foldl eOrder ((mL M bl).foldl eBuyer (eRun M r t told mn))
def pOrder (M : kx_M) (o : Nat) : Prop := kd M o = 8 ∧ ∃ b, fR M 140 o = some b ∧ kd M b = 2
def f2_X2_begin (_ : kx_E) (av : List Value) (M : kx_M) : kx_F := match av with
  | [.ref r, .ref t, .int told, .int mn, .ref bl, .ref ol] => (kd M r = 4 ∧ kd M t = 7 ∧ (∃ g, fR M 121 t = some g ∧ kd M g = 6) ∧ kd M bl = 1 ∧ kd M ol = 1 ∧ (mL M bl).length ≤ 1000 ∧ (mL M ol).length ≤ 1000 ∧ (∀ b ∈ mL M bl, kd M b = 2) ∧ (∀ o ∈ mL M ol, kd M o = 8), [], eBegin M r t told mn bl ol)
  | _ => (False, [], M)
/-- the order that presses first, of a list -/
def vFirst1 (M : kx_M) (r : Nat) (f : Option Nat) (o : Nat) : Option Nat := if vFits M r o = 0 then f else match f with
  | none => some o
  | some q => if vAhead M r o q = 0 then some q else some o
def vFirst (M : kx_M) (r : Nat) (l : List Nat) : Option Nat := l.foldl (vFirst1 M r) none
def f2_X2_firstToPress (_ : kx_E) (av : List Value) (M : kx_M) : kx_F := match av with
  | [.ref r, .ref ol] => (kd M r = 4 ∧ kd M ol = 1 ∧ (mL M ol).length ≤ 1000 ∧ ∀ o ∈ mL M ol, pOrder M o, [va_rf (vFirst M r (mL M ol))], M)
  | _ => (False, [], M)
/-- the price at which an order presses; how much it takes -/
def vPrice (M : kx_M) (r o : Nat) : Int32 := fI M 65 r - vStamp M r o
def vTaken (M : kx_M) (r o : Nat) : Int32 := vMin (fI M 28 (rf M 140 o) / vPrice M r o) (vMin (fI M 147 o) (fI M 66 r))
/-- the next taker, in at most n turns -/
def vNext (r : Nat) (l : List Nat) : Nat → kx_M → Option Nat × kx_M
  | 0, M => (none, M)
  | n + 1, M => match vFirst M r l with
    | none => (none, M)
    | some o => if fI M 66 r < 1 then (none, M) else if vPrice M r o < fI M 64 r then (none, M) else if vPrice M r o < 1 then (none, M) else if vTaken M r o ≤ 0 then vNext r l n (sI M 30 (rf M 140 o) 1) else (some o, eTake M r o (vTaken M r o) (vPrice M r o))
def f2_X2_nextTaker (_ : kx_E) (av : List Value) (M : kx_M) : kx_F := match av with
  | [.ref r, .ref ol] => (kd M r = 4 ∧ kd M ol = 1 ∧ (mL M ol).length ≤ 1000 ∧ ∀ o ∈ mL M ol, pOrder M o, [va_rf (vNext r (mL M ol) 5 M).1], (vNext r (mL M ol) 5 M).2)
  | _ => (False, [], M)
/-! WHAT CONSTRUCTORS DO -/
def kx_rv (v : Value) : Option Nat := match v with
  | .ref a => some a
  | _ => none
theorem kx_rv_r (a : Nat) : kx_rv (.ref a) = some a := rfl
theorem kx_rv_n : kx_rv .null = none := rfl
theorem kx_rv_v (o : Option Nat) : kx_rv (va_rf o) = o := by cases o <;> rfl
theorem kd_sKd (M : kx_M) (a k : Nat) : kd (sKd M a k) a = k := if_pos rfl
theorem kd_sKd_ne {M : kx_M} {a b k : Nat} (h : b ≠ a) : kd (sKd M a k) b = kd M b := if_neg h
theorem fI_sKd (M : kx_M) (a k : Nat) : fI (sKd M a k) = fI M := funext fun _ => rfl
theorem fR_sKd (M : kx_M) (a k : Nat) : fR (sKd M a k) = fR M := funext fun _ => rfl
theorem aI_sKd (M : kx_M) (a k : Nat) : aI (sKd M a k) = aI M := funext fun _ => rfl
theorem mL_sKd (M : kx_M) (a k : Nat) : mL (sKd M a k) = mL M := funext fun _ => rfl
theorem ln_sKd (M : kx_M) (a k : Nat) : ln (sKd M a k) = ln M := funext fun _ => rfl
/-- a new ByCultivar at q -/
def eByc (M : kx_M) (q : Nat) (x : Int32) : kx_M := sKd (sA (sA (sA (sN M q 13 0) q 0 x) q 1 x) q 2 x) q 3
def eBuy (M : kx_M) (a q : Nat) (n l : Int32) : kx_M := sI (sI (sI (sI (sR (eByc M q 0) 22 a (some q)) 23 a 2000) 25 a (-1)) 20 a n) 21 a l
def eGro (M : kx_M) (a q : Nat) : kx_M := sI (sI (sR (eByc M q 0) 100 a (some q)) 101 a 100) 103 a 50
def f2_X2_init (_ : kx_E) (av : List Value) (M : kx_M) : kx_F := match av with
  | [.ref a] => (kd M a = 4, [], M)
  | _ => (False, [], M)
def eCrop (M : kx_M) (a g : Nat) (n c p : Int32) : kx_M := sI (sI (sI (sR M 80 a (some g)) 81 a n) 82 a c) 83 a p
def f2_X3_init (_ : kx_E) (av : List Value) (M : kx_M) : kx_F := match av with
  | [.ref a, .ref g, .int n, .int c, .int p] => (kd M a = 5, [], eCrop M a g n c p)
  | _ => (False, [], M)
def vGrade (x : Int32) : Int32 := if 10 < x then (if 20 < x then 2 else 1) else 0
def eLot (M : kx_M) (a : Nat) (n : Int32) (c : Nat) (st bk : Int32) : kx_M :=
  sI (sI (sI (sI (sI (sI (sR (sI (sI (sI (sI (sI M 128 a 1) 129 a 0) 130 a (-1)) 131 a (-1)) 120 a n) 121 a (some (rf M 80 c))) 122 a (fI M 81 c)) 123 a (fI M 82 c)) 124 a (vGrade (fI M 86 c))) 125 a st) 126 a (vMax 0 (vFresh (fI M 82 c) - 2 * fI M 86 c))) 127 a bk
def f2_X5_init (_ : kx_E) (av : List Value) (M : kx_M) : kx_F := match av with
  | [.ref a, .int n, .ref c, .int st, .int bk] => (kd M a = 7 ∧ kd M c = 5 ∧ (∃ g, fR M 80 c = some g), [], eLot M a n c st bk)
  | _ => (False, [], M)
def eOrd (M : kx_M) (a b : Nat) (c g s m l w : Int32) : kx_M := sI (sI (sI (sI (sI (sI (sR M 140 a (some b)) 141 a c) 142 a g) 143 a s) 144 a m) 145 a l) 146 a w
def f2_X6_init (_ : kx_E) (av : List Value) (M : kx_M) : kx_F := match av with
  | [.ref a, .ref b, .int c, .int g, .int s, .int m, .int l, .int w] => (kd M a = 8, [], eOrd M a b c g s m l w)
  | _ => (False, [], M)
def eSale (M : kx_M) (a t b : Nat) (o : Option Nat) (st pr hr bk : Int32) : kx_M := sI (sI (sI (sI (sR (sR (sR M 160 a (some t)) 161 a (some b)) 162 a o) 163 a st) 164 a pr) 165 a hr) 166 a bk
def f2_X7_init (_ : kx_E) (av : List Value) (M : kx_M) : kx_F := match av with
  | [.ref a, .ref t, .ref b, v, .int st, .int pr, .int hr, .int bk] => (kd M a = 9 ∧ kx_isr v, [], eSale M a t b (kx_rv v) st pr hr bk)
  | _ => (False, [], M)
def eTro (M : kx_M) (a b : Nat) (c st li : Int32) : kx_M := sI (sI (sI (sR M 180 a (some b)) 181 a c) 182 a st) 183 a li
def f2_X8_init (_ : kx_E) (av : List Value) (M : kx_M) : kx_F := match av with
  | [.ref a, .ref b, .int c, .int st, .int li] => (kd M a = 10, [], eTro M a b c st li)
  | _ => (False, [], M)
def eGrow (M : kx_M) (c : Nat) (x : Int32) : kx_M :=
  let M1 := sI M 84 c (fI M 84 c + x)
  let M2 := if fI M 85 c = 0 then M1 else sI M1 86 c (fI M 86 c + 1)
  sI M2 85 c (if fI M 85 c = 0 then (if fI M 84 c + x < vSum (fI M 82 c) then 0 else 1) else 1)
def f2_X3_growBy (_ : kx_E) (av : List Value) (M : kx_M) : kx_F := match av with
  | [.ref c, .int x] => (kd M c = 5, [], eGrow M c x)
  | _ => (False, [], M)
