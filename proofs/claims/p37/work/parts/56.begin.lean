/-! THE RUN'S BEGINNING; what a run leaves as it was -/
def rn (i : Nat) : Prop := i = 28 ∨ i = 29 ∨ i = 30 ∨ i = 147 ∨ (60 ≤ i ∧ i ≤ 69)
def pOff (M N : kx_M) : Prop := pSame M N ∧ ∀ i x, ¬ rn i → fI N i x = fI M i x
theorem pSame.tr {M N K : kx_M} (h : pSame M N) (g : pSame N K) : pSame M K := ⟨g.1.trans h.1, g.2.1.trans h.2.1, g.2.2.1.trans h.2.2.1, g.2.2.2.1.trans h.2.2.2.1, g.2.2.2.2.trans h.2.2.2.2⟩
theorem pOff.rfl {M : kx_M} : pOff M M := ⟨pSame.rf, fun _ _ _ => Eq.refl _⟩
theorem pOff.tr {M N K : kx_M} (h : pOff M N) (g : pOff N K) : pOff M K := ⟨h.1.tr g.1, fun i x hi => (g.2 i x hi).trans (h.2 i x hi)⟩
theorem pOff.setI {M N : kx_M} (h : pOff M N) {i a : Nat} {v : Int32} (hi : rn i) : pOff M (sI N i a v) := ⟨h.1.sI, fun j x hj => (fI_sI_ne _ _ _ _ _ _ (fun z => hj (by rw [z]; exact hi))).trans (h.2 j x hj)⟩
theorem pOff.sym {M N : kx_M} (h : pOff M N) : pOff N M := ⟨⟨h.1.1.symm, h.1.2.1.symm, h.1.2.2.1.symm, h.1.2.2.2.1.symm, h.1.2.2.2.2.symm⟩, fun i x hi => (h.2 i x hi).symm⟩
theorem rn_28 : rn 28 := Or.inl rfl
theorem rn_29 : rn 29 := Or.inr (Or.inl rfl)
theorem rn_30 : rn 30 := Or.inr (Or.inr (Or.inl rfl))
theorem rn_147 : rn 147 := Or.inr (Or.inr (Or.inr (Or.inl rfl)))
theorem rn_6 {i : Nat} (h : 60 ≤ i ∧ i ≤ 69) : rn i := Or.inr (Or.inr (Or.inr (Or.inr h)))
theorem pOff_run (M : kx_M) (r t : Nat) (told mn : Int32) : pOff M (eRun M r t told mn) := by
  unfold eRun
  exact ((((((((pOff.rfl.setI (rn_6 (by decide))).setI (rn_6 (by decide))).setI (rn_6 (by decide))).setI (rn_6 (by decide))).setI (rn_6 (by decide))).setI (rn_6 (by decide))).setI (rn_6 (by decide))).setI (rn_6 (by decide)))
theorem pOff_begin (M : kx_M) (r t : Nat) (told mn : Int32) (bl ol : Nat) : pOff M (eBegin M r t told mn bl ol) := by
  unfold eBegin
  refine foldl_inv (P := pOff M) (fun a x h => ?_) _ _ (foldl_inv (P := pOff M) (fun a x h => ?_) _ _ (pOff_run M r t told mn))
  · unfold eOrder; exact h.setI rn_147
  · unfold eBuyer; exact ((h.setI rn_28).setI rn_29).setI rn_30
theorem pOff_take {M N : kx_M} (h : pOff M N) (r o : Nat) (t p : Int32) : pOff M (eTake N r o t p) := by
  unfold eTake
  exact ((((((h.setI (rn_6 (by decide))).setI (rn_6 (by decide))).setI rn_147).setI rn_28).setI (rn_6 (by decide))).setI (rn_6 (by decide))).setI (rn_6 (by decide))
theorem pOff_next {r : Nat} {l : List Nat} : ∀ (n : Nat) (N M : kx_M), pOff M N → pOff M (vNext r l n N).2 := by
  intro n
  induction n with
  | zero => exact fun N M h => h
  | succ n ih =>
    intro N M h
    unfold vNext
    split
    · exact h
    · split
      · exact h
      · split
        · exact h
        · split
          · exact h
          · split
            · exact ih _ _ (h.setI rn_30)
            · exact pOff_take h _ _ _ _
theorem pOff_low {M : kx_M} {m : Nat} : ∀ (n : Nat) (x : Int32) (N K : kx_M), pOff K N → pOff K (vLow M m n x N).2 := by
  intro n
  induction n with
  | zero => exact fun x N K h => h
  | succ n ih =>
    intro x N K h
    have hT := pOff_next (r := rf M 209 m) (l := mL M (rf M 205 m)) 5 N K h
    have hv : vTake1 M m N = vNext (rf M 209 m) (mL M (rf M 205 m)) 5 N := by unfold vTake1; exact (Eq.refl _)
    unfold vLow
    rw [hv]
    split
    · rename_i N2 he
      rw [he] at hT
      exact hT
    · rename_i o N2 he
      rw [he] at hT
      exact ih _ _ _ hT
theorem foldl_fI {f : kx_M → Nat → kx_M} {i : Nat} (hf : ∀ M x a, fI (f M x) i a = fI M i a) : ∀ (l : List Nat) (M : kx_M) (a : Nat), fI (l.foldl f M) i a = fI M i a := by
  intro l
  induction l with
  | nil => exact fun _ _ => Eq.refl _
  | cons x l ih => exact fun M a => (ih (f M x) a).trans (hf M x a)
/-- every element of a list gets at field i what g says, where f leaves what g reads -/
theorem foldl_set {f : kx_M → Nat → kx_M} {i : Nat} {g : kx_M → Nat → Int32} (hf : ∀ M x a, fI (f M x) i a = if a = x then g M x else fI M i a) (hg : ∀ M x a, g (f M x) a = g M a) : ∀ (l : List Nat) (M : kx_M) (a : Nat), fI (l.foldl f M) i a = if a ∈ l then g M a else fI M i a := by
  intro l
  induction l with
  | nil => intro M a; rw [if_neg List.not_mem_nil]; exact (Eq.refl _)
  | cons x l ih =>
    intro M a
    rw [List.foldl_cons, ih, hg, hf]
    by_cases ha : a ∈ l
    · rw [if_pos ha, if_pos (List.mem_cons_of_mem _ ha)]
    · rw [if_neg ha]
      by_cases hx : a = x
      · rw [if_pos hx, if_pos (by rw [hx]; exact List.mem_cons_self), hx]
      · rw [if_neg hx, if_neg (fun z => (List.mem_cons.mp z).elim hx ha)]
theorem fI_eBuyer_28 (M : kx_M) (x a : Nat) : fI (eBuyer M x) 28 a = if a = x then fI M 23 x else fI M 28 a := by
  unfold eBuyer; simp only [fI_set, Nat.reduceEqDiff, false_and, if_false, true_and]
theorem fI_eBuyer_29 (M : kx_M) (x a : Nat) : fI (eBuyer M x) 29 a = if a = x then vMax 0 (fI M 21 x - fI M 24 x) else fI M 29 a := by
  unfold eBuyer; simp only [fI_set, Nat.reduceEqDiff, false_and, if_false, true_and]
theorem fI_eBuyer_30 (M : kx_M) (x a : Nat) : fI (eBuyer M x) 30 a = if a = x then 0 else fI M 30 a := by
  unfold eBuyer; simp only [fI_set, Nat.reduceEqDiff, false_and, if_false, true_and]
theorem fI_eBuyer_o {M : kx_M} {i : Nat} (h : i ≠ 28 ∧ i ≠ 29 ∧ i ≠ 30) (x a : Nat) : fI (eBuyer M x) i a = fI M i a := by
  obtain ⟨h1, h2, h3⟩ := h
  unfold eBuyer; simp only [fI_set, h1, h2, h3, false_and, if_false]
theorem fI_eOrder (M : kx_M) (x a : Nat) : fI (eOrder M x) 147 a = if a = x then fI M 146 x else fI M 147 a := by
  unfold eOrder; simp only [fI_set, true_and]
theorem fI_eOrder_o {M : kx_M} {i : Nat} (h : i ≠ 147) (x a : Nat) : fI (eOrder M x) i a = fI M i a := by
  unfold eOrder; simp only [fI_set, h, false_and, if_false]
section BG
variable {M : kx_M} {r t : Nat} {told mn : Int32} {bl ol : Nat}
theorem fI_begin_28 {b : Nat} (hb : b ∈ mL M bl) : fI (eBegin M r t told mn bl ol) 28 b = fI M 23 b := by
  unfold eBegin
  rw [foldl_fI (i := 28) (fun M x a => fI_eOrder_o (by decide) x a), foldl_set (i := 28) (g := fun M x => fI M 23 x) fI_eBuyer_28 (fun M x a => fI_eBuyer_o (by decide) x a), if_pos hb]
  exact (pOff_run M r t told mn).2 23 b (by unfold rn; omega)
theorem fI_begin_29 {b : Nat} (hb : b ∈ mL M bl) : fI (eBegin M r t told mn bl ol) 29 b = vMax 0 (fI M 21 b - fI M 24 b) := by
  unfold eBegin
  rw [foldl_fI (i := 29) (fun M x a => fI_eOrder_o (by decide) x a), foldl_set (i := 29) (g := fun M x => vMax 0 (fI M 21 x - fI M 24 x)) fI_eBuyer_29 (fun M x a => by show vMax 0 (fI (eBuyer M x) 21 a - fI (eBuyer M x) 24 a) = _; rw [fI_eBuyer_o (by decide), fI_eBuyer_o (by decide)]), if_pos hb]
  show vMax 0 (fI (eRun M r t told mn) 21 b - fI (eRun M r t told mn) 24 b) = _
  rw [(pOff_run M r t told mn).2 21 b (by unfold rn; omega), (pOff_run M r t told mn).2 24 b (by unfold rn; omega)]
theorem fI_begin_30 {b : Nat} (hb : b ∈ mL M bl) : fI (eBegin M r t told mn bl ol) 30 b = 0 := by
  unfold eBegin
  rw [foldl_fI (i := 30) (fun M x a => fI_eOrder_o (by decide) x a), foldl_set (i := 30) (g := fun _ _ => 0) fI_eBuyer_30 (fun M x a => Eq.refl _), if_pos hb]
theorem fI_begin_147 {o : Nat} (ho : o ∈ mL M ol) : fI (eBegin M r t told mn bl ol) 147 o = fI M 146 o := by
  unfold eBegin
  rw [foldl_set (i := 147) (g := fun M x => fI M 146 x) fI_eOrder (fun M x a => fI_eOrder_o (by decide) x a), if_pos ho]
  show fI (List.foldl eBuyer (eRun M r t told mn) (mL M bl)) 146 o = _
  rw [foldl_fI (i := 146) (fun M x a => fI_eBuyer_o (by decide) x a)]
  exact (pOff_run M r t told mn).2 146 o (by unfold rn; omega)
theorem fI_begin_r {i : Nat} (h : i ≠ 28 ∧ i ≠ 29 ∧ i ≠ 30) (h2 : i ≠ 147) (x : Nat) : fI (eBegin M r t told mn bl ol) i x = fI (eRun M r t told mn) i x := by
  unfold eBegin
  rw [foldl_fI (i := i) (fun M x a => fI_eOrder_o h2 x a), foldl_fI (i := i) (fun M x a => fI_eBuyer_o h x a)]
theorem fI_begin_run : fI (eBegin M r t told mn bl ol) 60 r = fI M 123 t ∧ fI (eBegin M r t told mn bl ol) 61 r = fI M 124 t ∧ fI (eBegin M r t told mn bl ol) 62 r = vMin told (fI M 126 t) ∧ fI (eBegin M r t told mn bl ol) 63 r = fI M 103 (rf M 121 t) ∧ fI (eBegin M r t told mn bl ol) 64 r = mn ∧ fI (eBegin M r t told mn bl ol) 65 r = 99 ∧ fI (eBegin M r t told mn bl ol) 66 r = fI M 125 t ∧ fI (eBegin M r t told mn bl ol) 67 r = fI M 127 t := by
  rw [fI_begin_r (by decide) (by decide), fI_begin_r (by decide) (by decide), fI_begin_r (by decide) (by decide), fI_begin_r (by decide) (by decide), fI_begin_r (by decide) (by decide), fI_begin_r (by decide) (by decide), fI_begin_r (by decide) (by decide), fI_begin_r (by decide) (by decide)]
  unfold eRun
  simp only [fI_set, Nat.reduceEqDiff, false_and, if_false, true_and, if_true, and_self]
theorem fI_begin_o {i : Nat} (h : ¬ rn i) (x : Nat) : fI (eBegin M r t told mn bl ol) i x = fI M i x := (pOff_begin M r t told mn bl ol).2 i x h
/-- two halls in which a run over t goes alike -/
def aH (M N : kx_M) (t bl ol : Nat) : Prop :=
  (fI N 123 t = fI M 123 t ∧ fI N 124 t = fI M 124 t ∧ fI N 125 t = fI M 125 t ∧ fI N 127 t = fI M 127 t ∧ fI N 103 (rf N 121 t) = fI M 103 (rf M 121 t)) ∧ mL N bl = mL M bl ∧ mL N ol = mL M ol ∧
  (∀ o ∈ mL M ol, fR N 140 o = fR M 140 o ∧ fI N 141 o = fI M 141 o ∧ fI N 142 o = fI M 142 o ∧ fI N 143 o = fI M 143 o ∧ fI N 144 o = fI M 144 o ∧ fI N 145 o = fI M 145 o ∧ fI N 146 o = fI M 146 o ∧ rf M 140 o ∈ mL M bl) ∧
  ∀ b ∈ mL M bl, fI N 20 b = fI M 20 b ∧ fI N 21 b = fI M 21 b ∧ fI N 23 b = fI M 23 b ∧ fI N 24 b = fI M 24 b
theorem aG_begin {N : kx_M} {told' mn' : Int32} (h : aH M N t bl ol) (hs : vMin told' (fI N 126 t) = vMin told (fI M 126 t)) : aG r (mL M ol) (eBegin M r t told mn bl ol) (eBegin N r t told' mn' bl ol) := by
  obtain ⟨⟨a1, a2, a3, a4, a5⟩, hb, ho, h1, h2⟩ := h
  obtain ⟨c60, c61, c62, c63, c64, c65, c66, c67⟩ := fI_begin_run (M := M) (r := r) (t := t) (told := told) (mn := mn) (bl := bl) (ol := ol)
  obtain ⟨d60, d61, d62, d63, d64, d65, d66, d67⟩ := fI_begin_run (M := N) (r := r) (t := t) (told := told') (mn := mn') (bl := bl) (ol := ol)
  refine ⟨⟨by rw [c60, d60, a1], by rw [c61, d61, a2], by rw [c62, d62, hs], by rw [c63, d63, a5], by rw [c65, d65], by rw [c66, d66, a3], by rw [c67, d67, a4]⟩, fun o hoo => ?_⟩
  obtain ⟨e1, e2, e3, e4, e5, e6, e7, e8⟩ := h1 o hoo
  have hN : o ∈ mL N ol := by rw [ho]; exact hoo
  have er : rf (eBegin M r t told mn bl ol) 140 o = rf M 140 o := by unfold rf; rw [(pOff_begin M r t told mn bl ol).1.2.2.1]
  obtain ⟨f1, f2, f3, f4⟩ := h2 _ e8
  have hNb : rf M 140 o ∈ mL N bl := by rw [hb]; exact e8
  rw [er]
  refine ⟨by rw [(pOff_begin M r t told mn bl ol).1.2.2.1, (pOff_begin N r t told' mn' bl ol).1.2.2.1, e1], ⟨?_, ?_, ?_, ?_, ?_, ?_⟩, ?_, ?_, ?_, ?_⟩
  · rw [fI_begin_o (by unfold rn; omega), fI_begin_o (by unfold rn; omega), e2]
  · rw [fI_begin_o (by unfold rn; omega), fI_begin_o (by unfold rn; omega), e3]
  · rw [fI_begin_o (by unfold rn; omega), fI_begin_o (by unfold rn; omega), e4]
  · rw [fI_begin_o (by unfold rn; omega), fI_begin_o (by unfold rn; omega), e5]
  · rw [fI_begin_o (by unfold rn; omega), fI_begin_o (by unfold rn; omega), e6]
  · rw [fI_begin_147 hoo, fI_begin_147 hN, e7]
  · rw [fI_begin_o (by unfold rn; omega), fI_begin_o (by unfold rn; omega), f1]
  · rw [fI_begin_28 e8, fI_begin_28 hNb, f3]
  · rw [fI_begin_29 e8, fI_begin_29 hNb, f2, f4]
  · rw [fI_begin_30 e8, fI_begin_30 hNb]
/-- the bounds that a run begins with -/
def pBnd (M : kx_M) (t bl ol : Nat) : Prop := (0 ≤ iv (fI M 127 t) ∧ iv (fI M 127 t) ≤ 100 ∧ iv (fI M 125 t) ≤ 1000) ∧ (∀ o ∈ mL M ol, 1 ≤ iv (fI M 145 o) ∧ iv (fI M 145 o) ≤ 99 ∧ rf M 140 o ∈ mL M bl) ∧ ∀ b ∈ mL M bl, 0 ≤ iv (fI M 21 b) ∧ iv (fI M 21 b) ≤ 9 ∧ 0 ≤ iv (fI M 24 b) ∧ iv (fI M 24 b) ≤ 9 ∧ -200 ≤ iv (fI M 23 b) ∧ iv (fI M 23 b) ≤ 100000
theorem hB_begin (h : pBnd M t bl ol) : hB r (mL M ol) (eBegin M r t told mn bl ol) := by
  obtain ⟨⟨a1, a2, a3⟩, h1, h2⟩ := h
  obtain ⟨c60, c61, c62, c63, c64, c65, c66, c67⟩ := fI_begin_run (M := M) (r := r) (t := t) (told := told) (mn := mn) (bl := bl) (ol := ol)
  refine ⟨by rw [c65, iv_99]; decide, by rw [c65, iv_99]; decide, by rw [c67]; exact a1, by rw [c67]; exact a2, by rw [c66]; exact a3, fun o ho => ?_⟩
  obtain ⟨e1, e2, e3⟩ := h1 o ho
  have er : rf (eBegin M r t told mn bl ol) 140 o = rf M 140 o := by unfold rf; rw [(pOff_begin M r t told mn bl ol).1.2.2.1]
  obtain ⟨f1, f2, f3, f4, f5, f6⟩ := h2 _ e3
  have hl : iv (vMax 0 (fI M 21 (rf M 140 o) - fI M 24 (rf M 140 o))) = if 0 < iv (fI M 21 (rf M 140 o)) - iv (fI M 24 (rf M 140 o)) then iv (fI M 21 (rf M 140 o)) - iv (fI M 24 (rf M 140 o)) else 0 := by
    rw [iv_vMax, iv_sub (by omega) (by omega), iv_0]
  rw [er, fI_begin_29 e3, fI_begin_28 e3, hl, fI_begin_o (by unfold rn; omega)]
  refine ⟨e1, e2, ?_, ?_, f5, f6⟩
  · split <;> omega
  · split <;> omega
end BG
