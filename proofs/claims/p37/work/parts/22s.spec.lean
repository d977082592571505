/-! THE RUN OVER A LOT, asked -/
theorem foldl_inv {α : Type} {P : α → Prop} {f : α → Nat → α} (hf : ∀ a x, P a → P (f a x)) : ∀ (l : List Nat) (a : α), P a → P (l.foldl f a) := by
  intro l
  induction l with
  | nil => exact fun a h => h
  | cons x l ih => exact fun a h => ih (f a x) (hf a x h)
/-- the same objects, lists and references -/
def pSame (M N : kx_M) : Prop := kd N = kd M ∧ mL N = mL M ∧ fR N = fR M ∧ aI N = aI M ∧ ln N = ln M
theorem pSame.rf {M : kx_M} : pSame M M := ⟨rfl, rfl, rfl, rfl, rfl⟩
theorem pSame.sI {M N : kx_M} {i a : Nat} {x : Int32} (h : pSame M N) : pSame M (sI N i a x) := ⟨h.1, h.2.1, h.2.2.1, h.2.2.2.1, h.2.2.2.2⟩
theorem pSame_begin (M : kx_M) (r t : Nat) (told mn : Int32) (bl ol : Nat) : pSame M (eBegin M r t told mn bl ol) := by
  unfold eBegin
  refine foldl_inv (P := pSame M) (fun a x h => ?_) _ _ (foldl_inv (P := pSame M) (fun a x h => ?_) _ _ ?_)
  · unfold eOrder; exact h.sI
  · unfold eBuyer; exact h.sI.sI.sI
  · unfold eRun; exact pSame.rf.sI.sI.sI.sI.sI.sI.sI.sI
theorem pSame_take {M N : kx_M} (h : pSame M N) (r o : Nat) (t p : Int32) : pSame M (eTake N r o t p) := by
  unfold eTake; exact h.sI.sI.sI.sI.sI.sI.sI
theorem pSame_next {M : kx_M} {r : Nat} {l : List Nat} : ∀ (n : Nat) (N : kx_M), pSame M N → pSame M (vNext r l n N).2 := by
  intro n
  induction n with
  | zero => exact fun N h => h
  | succ n ih =>
    intro N h
    unfold vNext
    split
    · exact h
    · split
      · exact h
      · split
        · exact h
        · split
          · exact h
          · split
            · exact ih _ h.sI
            · exact pSame_take h _ _ _ _
def pRun (M : kx_M) (m t : Nat) : Prop := kd M m = 11 ∧ kd M t = 7 ∧ ∃ r bl ol g, fR M 209 m = some r ∧ kd M r = 4 ∧ fR M 204 m = some bl ∧ kd M bl = 1 ∧ fR M 205 m = some ol ∧ kd M ol = 1 ∧ fR M 121 t = some g ∧ kd M g = 6 ∧ (mL M bl).length ≤ 1000 ∧ (mL M ol).length ≤ 1000 ∧ (∀ b ∈ mL M bl, kd M b = 2) ∧ ∀ o ∈ mL M ol, pOrder M o
/-- the run as it begins over a lot, asked -/
def eAsk (M : kx_M) (m t : Nat) : kx_M := eBegin M (rf M 209 m) t (fI M 126 t) 1 (rf M 204 m) (rf M 205 m)
def vTake1 (M : kx_M) (m : Nat) (N : kx_M) : Option Nat × kx_M := vNext (rf M 209 m) (mL M (rf M 205 m)) 5 N
def f2_X9_firstPriceOf (_ : kx_E) (av : List Value) (M : kx_M) : kx_F := match av with
  | [.ref m, .ref t] => (pRun M m t, [.int (match (vTake1 M m (eAsk M m t)).1 with
    | none => -1
    | some _ => fI (vTake1 M m (eAsk M m t)).2 69 (rf M 209 m))], (vTake1 M m (eAsk M m t)).2)
  | _ => (False, [], M)
/-- the lowest price of the takers from here on, in at most n turns -/
def vLow (M : kx_M) (m : Nat) : Nat → Int32 → kx_M → Int32 × kx_M
  | 0, x, N => (x, N)
  | n + 1, x, N => match vTake1 M m N with
    | (none, N2) => (x, N2)
    | (some _, N2) => vLow M m n (vMin x (fI N2 69 (rf M 209 m))) N2
def f2_X9_lowestPriceOf (_ : kx_E) (av : List Value) (M : kx_M) : kx_F := match av with
  | [.ref m, .ref t] => (pRun M m t, [.int (vLow M m 200 99 (eAsk M m t)).1], (vLow M m 200 99 (eAsk M m t)).2)
  | _ => (False, [], M)
