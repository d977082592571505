/-! A SALE, its booking -/
def eBook0 (M : kx_M) (m t b g : Nat) (st bk pd sh : Int32) : kx_M := sI (sI (sI (sI (sI (sI (sI (sI (sI M 23 b (fI M 23 b - (pd + 2 * bk))) 26 b (fI M 26 b + bk)) 214 m (fI M 214 m + (pd - sh + 2 * bk))) 101 g (fI M 101 g + sh)) 104 g (fI M 104 g + st)) 125 t (fI M 125 t - st)) 127 t (fI M 127 t - bk)) 216 m (fI M 216 m + st)) 217 m (fI M 217 m + pd)
def eBook (M : kx_M) (m t b g : Nat) (oo : Option Nat) (st bk pd sh : Int32) : kx_M := match oo with
  | none => eBook0 M m t b g st bk pd sh
  | some o => sI (eBook0 M m t b g st bk pd sh) 146 o (fI M 146 o - st)
/-- a lot without stems is sold -/
def eSold (M : kx_M) (t : Nat) : kx_M := if fI M 125 t < 1 then sI M 129 t 2 else M
/-- a sale a made and booked -/
def eSell1 (M : kx_M) (m t b g : Nat) (oo : Option Nat) (st pr : Int32) (a : Nat) : kx_M := eBook (eSale (sN M a 9 0) a t b oo st pr (fI M 210 m) (vMin (vBuckets st) (fI M 127 t))) m t b g oo st (vMin (vBuckets st) (fI M 127 t)) (pr * st) (vShare (pr * st))
/-- its trolley q -/
def eSell2 (M : kx_M) (t b : Nat) (st : Int32) (tl q : Nat) : kx_M := sL (eTro (sN M q 10 0) q b (fI M 123 t) st (fI M 126 t)) tl (mL M tl ++ [q])
def eKeep (M : kx_M) (sl a : Nat) : kx_M := sL M sl ((if (mL M sl).length < 20 then mL M sl else (mL M sl).eraseIdx 0) ++ [a])
def eSell (M : kx_M) (m t b g : Nat) (oo : Option Nat) (st pr : Int32) (tl sl a q : Nat) : kx_M := eKeep (eSell2 (eSold (eSell1 M m t b g oo st pr a) t) t b st tl q) sl a
/-- a sale taken back -/
def eTakeBack (M : kx_M) (m t b g : Nat) (oo : Option Nat) (st bk pd sh : Int32) (tl : Nat) : kx_M :=
  let M1 := eBook M m t b g oo st bk pd sh
  let M2 := if fI M 129 t = 2 then sI M1 129 t 0 else M1
  if (mL M tl).length = 0 then M2 else sL M2 tl ((mL M tl).eraseIdx ((mL M tl).length - 1))
/-! THE RAIL -/
def eRail1 (m : Nat) (M : kx_M) : kx_M := eUnload (sL M (rf M 206 m) ((mL M (rf M 206 m)).eraseIdx (vNr M (mL M (rf M 206 m))))) m (((mL M (rf M 206 m))[vNr M (mL M (rf M 206 m))]?).getD 0)
def eRailN (m : Nat) : Nat → kx_M → kx_M × Int32 → kx_M × Int32
  | 0, _, s => s
  | n + 1, M, s => if (mL s.1 (rf M 206 m)).length = 0 then s else eRailN m n M (eRail1 m s.1, s.2 + 1)
def f2_X9_runRail (_ : kx_E) (av : List Value) (M : kx_M) : kx_F := match av with
  | [.ref m] => (pRail M m ∧ fI M 213 m = 2, [.int (eRailN m 2 M (M, 0)).2], (eRailN m 2 M (M, 0)).1)
  | _ => (False, [], M)
/-! BOUQUETS -/
def eBindN (s : Nat) : Nat → kx_M × Int32 → kx_M × Int32
  | 0, x => x
  | n + 1, x => if aI x.1 s 0 < vZero x.1 s then x else eBindN s n (eBindOne x.1 s, x.2 + 1)
def eBind (M : kx_M) (b : Nat) (n : Nat) : kx_M := sI (eBindN (rf M 22 b) n (M, 0)).1 27 b (fI (eBindN (rf M 22 b) n (M, 0)).1 27 b + (eBindN (rf M 22 b) n (M, 0)).2)
def f2_X9_bind (_ : kx_E) (av : List Value) (M : kx_M) : kx_F := match av with
  | [.ref m, .int i, .int x] => (pAt M m 204 2 i ∧ 1 ≤ x ∧ x ≤ 99 ∧ pByc M 22 (el M 204 m i), [.int (eBindN (rf M 22 (el M 204 m i)) x.toNatClampNeg (M, 0)).2], eBind M (el M 204 m i) x.toNatClampNeg)
  | _ => (False, [], M)
