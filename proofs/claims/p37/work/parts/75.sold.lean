/-! a booking, field by field -/
section BK
variable {M : kx_M} {m t b g : Nat} {oo : Option Nat} {st bk pd sh : Int32}
theorem bk_23 (x : Nat) : fI (eBook M m t b g oo st bk pd sh) 23 x = if x = b then fI M 23 b - (pd + 2 * bk) else fI M 23 x := by
  cases oo <;> (unfold eBook eBook0; simp only [fI_set, Nat.reduceEqDiff, false_and, if_false, true_and])
theorem bk_26 (x : Nat) : fI (eBook M m t b g oo st bk pd sh) 26 x = if x = b then fI M 26 b + bk else fI M 26 x := by
  cases oo <;> (unfold eBook eBook0; simp only [fI_set, Nat.reduceEqDiff, false_and, if_false, true_and])
theorem bk_214 (x : Nat) : fI (eBook M m t b g oo st bk pd sh) 214 x = if x = m then fI M 214 m + (pd - sh + 2 * bk) else fI M 214 x := by
  cases oo <;> (unfold eBook eBook0; simp only [fI_set, Nat.reduceEqDiff, false_and, if_false, true_and])
theorem bk_101 (x : Nat) : fI (eBook M m t b g oo st bk pd sh) 101 x = if x = g then fI M 101 g + sh else fI M 101 x := by
  cases oo <;> (unfold eBook eBook0; simp only [fI_set, Nat.reduceEqDiff, false_and, if_false, true_and])
theorem bk_104 (x : Nat) : fI (eBook M m t b g oo st bk pd sh) 104 x = if x = g then fI M 104 g + st else fI M 104 x := by
  cases oo <;> (unfold eBook eBook0; simp only [fI_set, Nat.reduceEqDiff, false_and, if_false, true_and])
theorem bk_125 (x : Nat) : fI (eBook M m t b g oo st bk pd sh) 125 x = if x = t then fI M 125 t - st else fI M 125 x := by
  cases oo <;> (unfold eBook eBook0; simp only [fI_set, Nat.reduceEqDiff, false_and, if_false, true_and])
theorem bk_127 (x : Nat) : fI (eBook M m t b g oo st bk pd sh) 127 x = if x = t then fI M 127 t - bk else fI M 127 x := by
  cases oo <;> (unfold eBook eBook0; simp only [fI_set, Nat.reduceEqDiff, false_and, if_false, true_and])
theorem bk_216 (x : Nat) : fI (eBook M m t b g oo st bk pd sh) 216 x = if x = m then fI M 216 m + st else fI M 216 x := by
  cases oo <;> (unfold eBook eBook0; simp only [fI_set, Nat.reduceEqDiff, false_and, if_false, true_and])
theorem bk_217 (x : Nat) : fI (eBook M m t b g oo st bk pd sh) 217 x = if x = m then fI M 217 m + pd else fI M 217 x := by
  cases oo <;> (unfold eBook eBook0; simp only [fI_set, Nat.reduceEqDiff, false_and, if_false, true_and])
theorem bk_146 (x : Nat) : fI (eBook M m t b g oo st bk pd sh) 146 x = if oo = some x then fI M 146 x - st else fI M 146 x := by
  cases oo with
  | none => unfold eBook eBook0; simp only [fI_set, Nat.reduceEqDiff, false_and, if_false, reduceCtorEq]
  | some o =>
    unfold eBook eBook0
    simp only [fI_set, Nat.reduceEqDiff, false_and, if_false, true_and, Option.some.injEq]
    by_cases hx : x = o
    · rw [if_pos hx, if_pos hx.symm, hx]
    · rw [if_neg hx, if_neg (fun z => hx z.symm)]
end BK
/-- the fields that a sale changes -/
def sF (i : Nat) : Prop := i = 23 ∨ i = 26 ∨ i = 214 ∨ i = 101 ∨ i = 104 ∨ i = 125 ∨ i = 127 ∨ i = 216 ∨ i = 217 ∨ i = 146 ∨ i = 129
section SL
variable {M : kx_M} {m t b g : Nat} {oo : Option Nat} {st pr : Int32} {tl sl a q : Nat}
theorem fI_eSold (N : kx_M) (t i x : Nat) (h : i ≠ 129) : fI (eSold N t) i x = fI N i x := by
  unfold eSold
  split
  · exact fI_sI_ne _ _ _ _ _ _ h
  · rfl
/-- what a sale makes of the cells that were there, by the booking over what was there -/
theorem sell_old (ha : kd M a = 0) (hq : kd M q = 0) (hm : kd M m = 11) (ht : kd M t = 7) (hb : kd M b = 2) (hg : kd M g = 6) (ho : ∀ o, oo = some o → kd M o = 8) {x : Nat} (hx : kd M x ≠ 0) (i : Nat) (hi : i ≠ 129) : fI (eSell M m t b g oo st pr tl sl a q) i x = fI (eBook M m t b g oo st (vMin (vBuckets st) (fI M 127 t)) (pr * st) (vShare (pr * st))) i x := by
  have hxa : x ≠ a := fun w => hx (by rw [w]; exact ha)
  have hxq : x ≠ q := fun w => hx (by rw [w]; exact hq)
  have hma : m ≠ a := kx_ne hm ha (by decide)
  have hta : t ≠ a := kx_ne ht ha (by decide)
  have hba : b ≠ a := kx_ne hb ha (by decide)
  have hga : g ≠ a := kx_ne hg ha (by decide)
  have e0 : ∀ i x, x ≠ a → fI (eSale (sN M a 9 0) a t b oo st pr (fI M 210 m) (vMin (vBuckets st) (fI M 127 t))) i x = fI M i x := fun i x hx => by rw [fI_eSale_ne i hx, fI_sN_ne i hx]
  unfold eSell eKeep eSell2 eTro
  rw [fI_sL, fI_sL, fI_sI_na _ _ _ _ _ _ hxq, fI_sI_na _ _ _ _ _ _ hxq, fI_sI_na _ _ _ _ _ _ hxq, fI_sR, fI_sN_ne _ hxq, fI_eSold _ _ _ _ hi]
  unfold eSell1
  by_cases h23 : i = 23
  · subst h23; rw [bk_23, bk_23, e0 _ _ hba, e0 _ _ hxa]
  by_cases h26 : i = 26
  · subst h26; rw [bk_26, bk_26, e0 _ _ hba, e0 _ _ hxa]
  by_cases h214 : i = 214
  · subst h214; rw [bk_214, bk_214, e0 _ _ hma, e0 _ _ hxa]
  by_cases h101 : i = 101
  · subst h101; rw [bk_101, bk_101, e0 _ _ hga, e0 _ _ hxa]
  by_cases h104 : i = 104
  · subst h104; rw [bk_104, bk_104, e0 _ _ hga, e0 _ _ hxa]
  by_cases h125 : i = 125
  · subst h125; rw [bk_125, bk_125, e0 _ _ hta, e0 _ _ hxa]
  by_cases h127 : i = 127
  · subst h127; rw [bk_127, bk_127, e0 _ _ hta, e0 _ _ hxa]
  by_cases h216 : i = 216
  · subst h216; rw [bk_216, bk_216, e0 _ _ hma, e0 _ _ hxa]
  by_cases h217 : i = 217
  · subst h217; rw [bk_217, bk_217, e0 _ _ hma, e0 _ _ hxa]
  by_cases h146 : i = 146
  · subst h146; rw [bk_146, bk_146, e0 _ _ hxa]
  rw [fI_eBook_o i x ⟨h23, h26, h214, h101, h104, h125, h127, h216, h217⟩ h146, fI_eBook_o i x ⟨h23, h26, h214, h101, h104, h125, h127, h216, h217⟩ h146, e0 _ _ hxa]
theorem sell_129 (ha : kd M a = 0) (hq : kd M q = 0) (ht : kd M t = 7) {x : Nat} (hx : kd M x ≠ 0) : fI (eSell M m t b g oo st pr tl sl a q) 129 x = if x = t ∧ fI M 125 t - st < 1 then 2 else fI M 129 x := by
  have hxa : x ≠ a := fun w => hx (by rw [w]; exact ha)
  have hxq : x ≠ q := fun w => hx (by rw [w]; exact hq)
  have hta : t ≠ a := kx_ne ht ha (by decide)
  have e0 : ∀ i x, x ≠ a → fI (eSale (sN M a 9 0) a t b oo st pr (fI M 210 m) (vMin (vBuckets st) (fI M 127 t))) i x = fI M i x := fun i x hx => by rw [fI_eSale_ne i hx, fI_sN_ne i hx]
  unfold eSell eKeep eSell2 eTro
  rw [fI_sL, fI_sL, fI_sI_na _ _ _ _ _ _ hxq, fI_sI_na _ _ _ _ _ _ hxq, fI_sI_na _ _ _ _ _ _ hxq, fI_sR, fI_sN_ne _ hxq]
  have e1 : fI (eSell1 M m t b g oo st pr a) 125 t = fI M 125 t - st := by unfold eSell1; rw [bk_125, if_pos rfl, e0 _ _ hta]
  have e2 : fI (eSell1 M m t b g oo st pr a) 129 x = fI M 129 x := by
    unfold eSell1
    rw [fI_eBook_o 129 x (by decide) (by decide), e0 _ _ hxa]
  unfold eSold
  rw [e1]
  by_cases hz : fI M 125 t - st < 1
  · rw [if_pos hz, fI_set, e2]
    by_cases hxt : x = t
    · rw [if_pos ⟨rfl, hxt⟩, if_pos ⟨hxt, hz⟩]
    · rw [if_neg (fun w => hxt w.2), if_neg (fun w => hxt w.1)]
  · rw [if_neg hz, e2, if_neg (fun w => hz w.2)]
theorem sell_ag (ha : kd M a = 0) (hq : kd M q = 0) (hm : kd M m = 11) (ht : kd M t = 7) (hb : kd M b = 2) (hg : kd M g = 6) (ho : ∀ o, oo = some o → kd M o = 8) : pAg sF M (eSell M m t b g oo st pr tl sl a q) := fun x hx => by
  obtain ⟨e1, e2⟩ := kd_eSell_old (m := m) (t := t) (b := b) (g := g) (oo := oo) (st := st) (pr := pr) (tl := tl) (sl := sl) ha hq hx
  refine ⟨e1, fun i hi => ?_, e2⟩
  unfold sF at hi
  rw [sell_old ha hq hm ht hb hg ho hx i (by omega), fI_eBook_o i x (by omega) (by omega)]
theorem sell_aI (ha : kd M a = 0) (hq : kd M q = 0) {x j : Nat} (hx : kd M x ≠ 0) : aI (eSell M m t b g oo st pr tl sl a q) x j = aI M x j := by
  have hxa : x ≠ a := fun w => hx (by rw [w]; exact ha)
  have hxq : x ≠ q := fun w => hx (by rw [w]; exact hq)
  have eB : ∀ N : kx_M, aI (eSold N t) = aI N := fun N => by unfold eSold; split <;> simp only [aI_sI]
  unfold eSell eKeep eSell2 eTro eSell1
  rw [aI_sL, aI_sL, aI_sI, aI_sI, aI_sI, aI_sR, aI_sN_ne hxq, eB, aI_eBook, aI_eSale, aI_sN_ne hxa]
theorem sell_tl (ha : kd M a = 0) (hq : kd M q = 0) (h1 : kd M tl = 1) (h3 : tl ≠ sl) : mL (eSell M m t b g oo st pr tl sl a q) tl = mL M tl ++ [q] := by
  have eB : ∀ N : kx_M, mL (eSold N t) = mL N := fun N => by unfold eSold; split <;> simp only [mL_sI]
  unfold eSell eKeep
  rw [mL_sL_ne _ _ _ _ h3]
  unfold eSell2
  rw [mL_sL_eq, eB]
  unfold eSell1
  rw [mL_eBook, mL_eSale, mL_sN_ne (kx_ne h1 ha (by decide))]
theorem sell_sl (ha : kd M a = 0) (hq : kd M q = 0) (h1 : kd M sl = 1) (h3 : tl ≠ sl) : mL (eSell M m t b g oo st pr tl sl a q) sl = (if (mL M sl).length < 20 then mL M sl else (mL M sl).eraseIdx 0) ++ [a] := by
  have eB : ∀ N : kx_M, mL (eSold N t) = mL N := fun N => by unfold eSold; split <;> simp only [mL_sI]
  have e1 : mL (eSell2 (eSold (eSell1 M m t b g oo st pr a) t) t b st tl q) sl = mL M sl := by
    unfold eSell2 eTro
    rw [mL_sL_ne _ _ _ _ (Ne.symm h3), mL_sI, mL_sI, mL_sI, mL_sR, mL_sN_ne (kx_ne h1 hq (by decide)), eB]
    unfold eSell1
    rw [mL_eBook, mL_eSale, mL_sN_ne (kx_ne h1 ha (by decide))]
  unfold eSell eKeep
  rw [mL_sL_eq, e1]
/-- the sale's own cell, its trolley's -/
theorem sell_a (ha : kd M a = 0) (hq : kd M q = 0) (haq : a ≠ q) : kd (eSell M m t b g oo st pr tl sl a q) a = 9 ∧ fR (eSell M m t b g oo st pr tl sl a q) 160 a = some t ∧ fR (eSell M m t b g oo st pr tl sl a q) 161 a = some b ∧ fR (eSell M m t b g oo st pr tl sl a q) 162 a = oo ∧ fI (eSell M m t b g oo st pr tl sl a q) 163 a = st ∧ fI (eSell M m t b g oo st pr tl sl a q) 164 a = pr ∧ fI (eSell M m t b g oo st pr tl sl a q) 165 a = fI M 210 m ∧ fI (eSell M m t b g oo st pr tl sl a q) 166 a = vMin (vBuckets st) (fI M 127 t) := by
  have eK : ∀ N : kx_M, kd (eSold N t) = kd N ∧ fR (eSold N t) = fR N := fun N => by unfold eSold; split <;> exact ⟨by simp only [kd_sI], by simp only [fR_sI]⟩
  have e0 : ∀ i, i ≠ 129 → (i ≠ 23 ∧ i ≠ 26 ∧ i ≠ 214 ∧ i ≠ 101 ∧ i ≠ 104 ∧ i ≠ 125 ∧ i ≠ 127 ∧ i ≠ 216 ∧ i ≠ 217) → i ≠ 146 → fI (eSell M m t b g oo st pr tl sl a q) i a = fI (eSale (sN M a 9 0) a t b oo st pr (fI M 210 m) (vMin (vBuckets st) (fI M 127 t))) i a := fun i h1 h2 h3 => by
    unfold eSell eKeep eSell2 eTro
    rw [fI_sL, fI_sL, fI_sI_na _ _ _ _ _ _ haq, fI_sI_na _ _ _ _ _ _ haq, fI_sI_na _ _ _ _ _ _ haq, fI_sR, fI_sN_ne _ haq, fI_eSold _ _ _ _ h1]
    unfold eSell1
    rw [fI_eBook_o i a h2 h3]
  have e1 : ∀ i, fR (eSell M m t b g oo st pr tl sl a q) i a = fR (eSale (sN M a 9 0) a t b oo st pr (fI M 210 m) (vMin (vBuckets st) (fI M 127 t))) i a := fun i => by
    unfold eSell eKeep eSell2 eTro
    rw [fR_sL, fR_sL, fR_sI, fR_sI, fR_sI, fR_sR_na _ _ _ _ _ _ haq, fR_sN_ne _ haq, (eK _).2]
    unfold eSell1
    rw [fR_eBook]
  refine ⟨?_, by rw [e1]; unfold eSale; simp only [fR_sI, fR_sR_eq, fR_sR_ne, ne_eq, Nat.reduceEqDiff, not_false_eq_true], by rw [e1]; unfold eSale; simp only [fR_sI, fR_sR_eq, fR_sR_ne, ne_eq, Nat.reduceEqDiff, not_false_eq_true], by rw [e1]; unfold eSale; simp only [fR_sI, fR_sR_eq, fR_sR_ne, ne_eq, Nat.reduceEqDiff, not_false_eq_true], ?_, ?_, ?_, ?_⟩
  · unfold eSell eKeep eSell2 eTro
    rw [kd_sL, kd_sL, kd_sI, kd_sI, kd_sI, kd_sR, kd_sN_ne haq, (eK _).1]
    unfold eSell1
    rw [kd_eBook, kd_eSale, kd_sN]
  · rw [e0 163 (by decide) (by decide) (by decide)]; unfold eSale; simp only [fI_sI_eq, fI_sI_ne, ne_eq, Nat.reduceEqDiff, not_false_eq_true]
  · rw [e0 164 (by decide) (by decide) (by decide)]; unfold eSale; simp only [fI_sI_eq, fI_sI_ne, ne_eq, Nat.reduceEqDiff, not_false_eq_true]
  · rw [e0 165 (by decide) (by decide) (by decide)]; unfold eSale; simp only [fI_sI_eq, fI_sI_ne, ne_eq, Nat.reduceEqDiff, not_false_eq_true]
  · rw [e0 166 (by decide) (by decide) (by decide)]; unfold eSale; simp only [fI_sI_eq, fI_sI_ne, ne_eq, Nat.reduceEqDiff, not_false_eq_true]
theorem sell_q (ha : kd M a = 0) (hq : kd M q = 0) (ht : kd M t = 7) (hsq : kd M sl = 1) : kd (eSell M m t b g oo st pr tl sl a q) q = 10 ∧ fR (eSell M m t b g oo st pr tl sl a q) 180 q = some b ∧ fI (eSell M m t b g oo st pr tl sl a q) 181 q = fI M 123 t ∧ fI (eSell M m t b g oo st pr tl sl a q) 182 q = st ∧ fI (eSell M m t b g oo st pr tl sl a q) 183 q = fI M 126 t := by
  have hta : t ≠ a := kx_ne ht ha (by decide)
  have e0 : ∀ i, i ≠ 129 → (i ≠ 23 ∧ i ≠ 26 ∧ i ≠ 214 ∧ i ≠ 101 ∧ i ≠ 104 ∧ i ≠ 125 ∧ i ≠ 127 ∧ i ≠ 216 ∧ i ≠ 217) → i ≠ 146 → fI (eSold (eSell1 M m t b g oo st pr a) t) i t = fI M i t := fun i h1 h2 h3 => by
    rw [fI_eSold _ _ _ _ h1]
    unfold eSell1
    rw [fI_eBook_o i t h2 h3, fI_eSale_ne i hta, fI_sN_ne i hta]
  unfold eSell eKeep eSell2 eTro
  refine ⟨?_, ?_, ?_, ?_, ?_⟩
  · rw [kd_sL, kd_sL, kd_sI, kd_sI, kd_sI, kd_sR, kd_sN]
  · rw [fR_sL, fR_sL, fR_sI, fR_sI, fR_sI, fR_sR_eq]
  · simp only [fI_sL, fI_sI_eq, fI_sI_ne, ne_eq, Nat.reduceEqDiff, not_false_eq_true]
    exact e0 123 (by decide) (by decide) (by decide)
  · simp only [fI_sL, fI_sI_eq, fI_sI_ne, ne_eq, Nat.reduceEqDiff, not_false_eq_true]
  · simp only [fI_sL, fI_sI_eq, fI_sI_ne, ne_eq, Nat.reduceEqDiff, not_false_eq_true]
    exact e0 126 (by decide) (by decide) (by decide)
end SL
