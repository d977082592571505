/-- each of a list without doubles gets at field i what G says of what was there -/
theorem foldl_once {f : kx_M → Nat → kx_M} {i : Nat} {G : kx_M → Nat → Int32} (hf : ∀ M x a, fI (f M x) i a = if a = x then G M x else fI M i a) (hg : ∀ M x a, a ≠ x → G (f M x) a = G M a) : ∀ (l : List Nat) (M : kx_M) (a : Nat), l.Nodup → fI (l.foldl f M) i a = if a ∈ l then G M a else fI M i a := by
  intro l
  induction l with
  | nil => intro M a _; rw [if_neg List.not_mem_nil, List.foldl_nil]
  | cons x l ih =>
    intro M a hn
    obtain ⟨h1, h2⟩ := List.nodup_cons.mp hn
    rw [List.foldl_cons, ih _ _ h2, hf]
    by_cases hx : a = x
    · subst hx
      rw [if_neg h1, if_pos rfl, if_pos List.mem_cons_self]
    · rw [hg _ _ _ hx, if_neg hx]
      by_cases ha : a ∈ l
      · rw [if_pos ha, if_pos (List.mem_cons_of_mem _ ha)]
      · rw [if_neg ha, if_neg (fun z => (List.mem_cons.mp z).elim hx ha)]
theorem foldl_keep {P : kx_M → Prop} {f : kx_M → Nat → kx_M} {S : List Nat} (hf : ∀ M x, x ∈ S → P M → P (f M x)) : ∀ (l : List Nat) (M : kx_M), (∀ x ∈ l, x ∈ S) → P M → P (l.foldl f M) := by
  intro l
  induction l with
  | nil => intro M _ h; exact h
  | cons x l ih => intro M hl h; exact ih _ (fun y hy => hl y (List.mem_cons_of_mem _ hy)) (hf M x (hl x List.mem_cons_self) h)
/-- what an hour makes of a crop -/
def g84 (m : Nat) (M : kx_M) (c : Nat) : Int32 := fI M 84 c + (fI M 211 m + fI M 102 (rf M 80 c))
def g86 (M : kx_M) (c : Nat) : Int32 := if fI M 85 c = 0 then fI M 86 c else fI M 86 c + 1
def g85 (m : Nat) (M : kx_M) (c : Nat) : Int32 := if fI M 85 c = 0 then (if g84 m M c < vSum (fI M 82 c) then 0 else 1) else 1
theorem fI_eGrow_84 (M : kx_M) (c a : Nat) (v : Int32) : fI (eGrow M c v) 84 a = if a = c then fI M 84 c + v else fI M 84 a := by
  unfold eGrow
  show fI (sI (if _ then _ else _) 85 c _) 84 a = _
  rw [fI_sI_ne _ _ _ _ _ _ (by decide)]
  split
  · rw [fI_set]; simp only [true_and]
  · rw [fI_sI_ne _ _ _ _ _ _ (by decide), fI_set]; simp only [true_and]
theorem fI_eGrow_86 (M : kx_M) (c a : Nat) (v : Int32) : fI (eGrow M c v) 86 a = if a = c then (if fI M 85 c = 0 then fI M 86 c else fI M 86 c + 1) else fI M 86 a := by
  unfold eGrow
  show fI (sI (if _ then _ else _) 85 c _) 86 a = _
  rw [fI_sI_ne _ _ _ _ _ _ (by decide)]
  by_cases hz : fI M 85 c = 0
  · rw [if_pos hz, if_pos hz, fI_sI_ne _ _ _ _ _ _ (by decide)]
    by_cases ha : a = c
    · rw [if_pos ha, ha]
    · rw [if_neg ha]
  · rw [if_neg hz, if_neg hz, fI_set, fI_sI_ne _ _ _ _ _ _ (by decide)]
    simp only [true_and]
theorem fI_eGrow_85 (M : kx_M) (c a : Nat) (v : Int32) : fI (eGrow M c v) 85 a = if a = c then (if fI M 85 c = 0 then (if fI M 84 c + v < vSum (fI M 82 c) then 0 else 1) else 1) else fI M 85 a := by
  unfold eGrow
  show fI (sI (if _ then _ else _) 85 c _) 85 a = _
  rw [fI_set]
  simp only [true_and]
  by_cases ha : a = c
  · rw [if_pos ha, if_pos ha]
  · rw [if_neg ha, if_neg ha]
    split
    · rw [fI_sI_ne _ _ _ _ _ _ (by decide)]
    · rw [fI_sI_ne _ _ _ _ _ _ (by decide), fI_sI_ne _ _ _ _ _ _ (by decide)]
theorem fI_eGrow_o {M : kx_M} {c : Nat} {v : Int32} {i : Nat} (h : i ≠ 84 ∧ i ≠ 85 ∧ i ≠ 86) (a : Nat) : fI (eGrow M c v) i a = fI M i a := by
  unfold eGrow
  show fI (sI (if _ then _ else _) 85 c _) i a = _
  rw [fI_sI_ne _ _ _ _ _ _ h.2.1]
  split
  · rw [fI_sI_ne _ _ _ _ _ _ h.1]
  · rw [fI_sI_ne _ _ _ _ _ _ h.2.2, fI_sI_ne _ _ _ _ _ _ h.1]
theorem rf_eGrow (M : kx_M) (c : Nat) (v : Int32) (i x : Nat) : rf (eGrow M c v) i x = rf M i x := by unfold rf; rw [fR_eGrow]
section GR
variable {m : Nat}
theorem grow_o {i : Nat} (h : i ≠ 84 ∧ i ≠ 85 ∧ i ≠ 86) (l : List Nat) (M : kx_M) (a : Nat) : fI (l.foldl (eGrowC m) M) i a = fI M i a := foldl_fI (i := i) (f := eGrowC m) (fun M x a => by unfold eGrowC; exact fI_eGrow_o h a) l M a
theorem grow_84 (l : List Nat) (M : kx_M) (a : Nat) (hn : l.Nodup) : fI (l.foldl (eGrowC m) M) 84 a = if a ∈ l then g84 m M a else fI M 84 a := foldl_once (f := eGrowC m) (G := g84 m) (fun M x a => by unfold eGrowC g84; exact fI_eGrow_84 _ _ _ _) (fun M x a hx => by
  unfold g84 eGrowC
  rw [rf_eGrow, fI_eGrow_84, if_neg hx, fI_eGrow_o (by decide), fI_eGrow_o (by decide)]) l M a hn
theorem grow_86 (l : List Nat) (M : kx_M) (a : Nat) (hn : l.Nodup) : fI (l.foldl (eGrowC m) M) 86 a = if a ∈ l then g86 M a else fI M 86 a := foldl_once (f := eGrowC m) (G := g86) (fun M x a => by unfold eGrowC g86; exact fI_eGrow_86 _ _ _ _) (fun M x a hx => by
  unfold g86 eGrowC
  rw [fI_eGrow_85, if_neg hx, fI_eGrow_86, if_neg hx]) l M a hn
theorem grow_85 (l : List Nat) (M : kx_M) (a : Nat) (hn : l.Nodup) : fI (l.foldl (eGrowC m) M) 85 a = if a ∈ l then g85 m M a else fI M 85 a := foldl_once (f := eGrowC m) (G := g85 m) (fun M x a => by unfold eGrowC g85 g84; exact fI_eGrow_85 _ _ _ _) (fun M x a hx => by
  unfold g85 g84 eGrowC
  rw [rf_eGrow, fI_eGrow_84, if_neg hx, fI_eGrow_85, if_neg hx, fI_eGrow_o (by decide), fI_eGrow_o (by decide), fI_eGrow_o (by decide)]) l M a hn
end GR
section HR
variable {A : Nat → Nat} {cut bound : Int} {K : Int32} {H : Int} {e : Nat} {M : kx_M} {m : Nat}
theorem vSum_in (c : Int32) : 60 ≤ iv (vSum c) ∧ iv (vSum c) ≤ 120 := by
  unfold vSum
  split
  · exact ⟨by decide, by decide⟩
  · split <;> exact ⟨by decide, by decide⟩
/-- the hour told, and the crops grown -/
theorem hI_grow (h : hI m A cut bound K H e M) (hH : H ≤ 10000) : hI m A cut bound K (H + 1) e ((mL M (A 201)).foldl (eGrowC m) (sI M 210 m (fI M 210 m + 1))) := by
  obtain ⟨s, g', u, y, cc, o, l, r, tt, z, n1, n2, n3, n4, n5⟩ := h
  generalize hN : (mL M (A 201)).foldl (eGrowC m) (sI M 210 m (fI M 210 m + 1)) = N
  have kN : kd N = kd M := by rw [← hN, kd_eGrows, kd_sI]
  have rN : fR N = fR M := by rw [← hN, fR_eGrows, fR_sI]
  have lN : mL N = mL M := by rw [← hN, mL_eGrows, mL_sI]
  have aN : aI N = aI M := by rw [← hN, aI_eGrows, aI_sI]
  have p : pAg (fun i => i = 84 ∨ i = 85 ∨ i = 86 ∨ i = 210) M N := fun x _ => ⟨by rw [kN], fun i hi => by
    rw [← hN, grow_o (by omega), fI_sI_ne _ _ _ _ _ _ (by omega)], fun i => by rw [rN]⟩
  have h210 : iv (fI M 210 m + 1) = iv (fI M 210 m) + 1 := by rw [iv_add (by rw [iv_1]; have := n5.1; omega) (by rw [iv_1]; have := n5.1; omega), iv_1]
  have v210 : fI N 210 m = fI M 210 m + 1 := by rw [← hN, grow_o (by decide), fI_sI_eq]
  refine ⟨hS_of s p, hG_of g' p (by rw [lN]) (aI_all aN) (by simp) (by simp), hU_of u p (by rw [lN]) (aI_all aN) (by simp), hY_of y s g' u p (by rw [lN]) (by rw [lN]) (fun _ => by rw [aN]), ?_, hO_of o p (by rw [lN]) (by rw [lN]) (by simp), hL_of l p (by rw [lN]) (by rw [lN]) (by simp) (by simp), hR_of r l p (by rw [lN]) (by rw [lN]) (by simp), hT_of tt p (by rw [lN]) (by rw [lN]) (by simp), hZ_of z p (by rw [lN]), nStem_of n1 s l u tt p (by rw [lN]) (by rw [lN]) (by rw [lN]) (aI_all aN) (by simp), nPail_of n2 s l u p (by rw [lN]) (by rw [lN]) (by simp), nCoin_of n3 s g' u p (by rw [lN]) (by rw [lN]) (by simp), nSold_of n4 s g' p (by rw [lN]) (by simp), ⟨?_, ?_, ?_⟩⟩
  · refine ⟨by rw [lN]; exact cc.1, by rw [lN]; exact cc.2.1, fun c hc => ?_⟩
    rw [lN] at hc
    obtain ⟨c1, c2, c3, c4, c5, c6⟩ := cc.2.2 c hc
    obtain ⟨k, g, d1, d2, d3⟩ := c2
    have hgm : g ∈ mL M (A 200) := List.mem_of_getElem? d1
    obtain ⟨-, -, w1, w2, -⟩ := g'.2.2 g hgm
    have hr : rf M 80 c = g := by unfold rf; rw [d3]; rfl
    have e84 : fI N 84 c = fI M 84 c + (fI M 211 m + fI M 102 g) := by
      rw [← hN, grow_84 _ _ _ cc.1, if_pos hc]
      unfold g84 rf
      rw [fR_sI, d3, fI_sI_ne _ _ _ _ _ _ (by decide), fI_sI_ne _ _ _ _ _ _ (by decide), fI_sI_ne _ _ _ _ _ _ (by decide)]
      rfl
    have e86 : fI N 86 c = if fI M 85 c = 0 then fI M 86 c else fI M 86 c + 1 := by
      rw [← hN, grow_86 _ _ _ cc.1, if_pos hc]
      unfold g86
      rw [fI_sI_ne _ _ _ _ _ _ (by decide), fI_sI_ne _ _ _ _ _ _ (by decide)]
    have e82 : fI N 82 c = fI M 82 c := (p c (by omega)).2.1 82 (by simp)
    have e85 : fI N 85 c = if fI M 85 c = 0 then (if fI N 84 c < vSum (fI M 82 c) then 0 else 1) else 1 := by
      rw [e84, ← hN, grow_85 _ _ _ cc.1, if_pos hc]
      unfold g85 g84 rf
      rw [fR_sI, d3, fI_sI_ne _ _ _ _ _ _ (by decide), fI_sI_ne _ _ _ _ _ _ (by decide), fI_sI_ne _ _ _ _ _ _ (by decide), fI_sI_ne _ _ _ _ _ _ (by decide), fI_sI_ne _ _ _ _ _ _ (by decide)]
      rfl
    have i1 : iv (fI M 211 m + fI M 102 g) = iv (fI M 211 m) + iv (fI M 102 g) := iv_add (by have := n5.2.1; omega) (by have := n5.2.1; omega)
    have i2 : iv (fI N 84 c) = iv (fI M 84 c) + (iv (fI M 211 m) + iv (fI M 102 g)) := by
      rw [e84, iv_add (by rw [i1]; have := n5.2.1; have := n5.1; omega) (by rw [i1]; have := n5.2.1; have := n5.1; omega), i1]
    have i3 : 0 ≤ iv (fI N 86 c) ∧ iv (fI N 86 c) ≤ iv (fI M 86 c) + 1 := by
      rw [e86]
      split
      · omega
      · rw [iv_add (by rw [iv_1]; have := n5.1; omega) (by rw [iv_1]; have := n5.1; omega), iv_1]; omega
    have n211 := n5.2.1
    refine ⟨by rw [kN, c1], ⟨k, g, by rw [lN]; exact d1, by rw [(p c (by omega)).2.1 81 (by simp), d2], by rw [rN, d3]⟩, by rw [e82]; exact c3, by rw [v210, h210]; omega, by rw [v210, h210, i2]; omega, ?_⟩
    rw [e85, e82, c6]
    by_cases hs : vSum (fI M 82 c) ≤ fI M 84 c
    · rw [if_pos hs, if_neg (by decide), if_pos]
      rw [iv_le] at hs ⊢
      rw [i2]; omega
    · rw [if_neg hs, if_pos rfl]
      by_cases hs2 : fI N 84 c < vSum (fI M 82 c)
      · rw [if_pos hs2, if_neg (fun w => absurd (iv_le.mp w) (by have := iv_lt.mp hs2; omega))]
      · rw [if_neg hs2, if_pos (iv_le.mpr (by have := mt iv_lt.mpr hs2; omega))]
  · rw [v210, h210]
    have := n5.1
    omega
  · rw [(p m (by rw [s.1]; decide)).2.1 211 (by simp)]; exact n5.2.1
  · rw [(p m (by rw [s.1]; decide)).2.1 213 (by simp)]; exact n5.2.2
/-- a grower's day begun -/
theorem hI_day (h : hI m A cut bound K H e M) {g : Nat} (hg : g ∈ mL M (A 200)) : hI m A cut bound K H e (eDay M g) := by
  obtain ⟨s, g', u, y, cc, o, l, r, tt, z, n1, n2, n3, n4, n5⟩ := h
  obtain ⟨c1, ⟨q, c2, c3, c4⟩, c5⟩ := g'.2.2 g hg
  have hrq : rf M 100 g = q := by unfold rf; rw [c2]; rfl
  have vA : ∀ x j, aI (eDay M g) x j = if x = q ∧ j = 2 then 0 else if x = q ∧ j = 1 then 0 else if x = q ∧ j = 0 then 0 else aI M x j := fun x j => by
    unfold eDay
    rw [hrq]
    exact (Eq.refl _)
  have vo : ∀ x j, x ≠ q → aI (eDay M g) x j = aI M x j := fun x j hx => by
    rw [vA, if_neg (fun w => hx w.1), if_neg (fun w => hx w.1), if_neg (fun w => hx w.1)]
  have p : pAg (fun _ => (False ∨ False) ∨ False) M (eDay M g) := by
    unfold eDay
    exact ((pAg_sA M _ _ _).tr (pAg_sA _ _ _ _)).tr (pAg_sA _ _ _ _)
  have hau : ∀ x ∈ mL M (A 204), ∀ q2, fR M 22 x = some q2 → ∀ j, aI (eDay M g) q2 j = aI M q2 j := fun x hx q2 hq2 j => vo _ _ (fun w => byc_ne_gu y hg hx c2 hq2 w.symm)
  have hm : ∀ i, mL (eDay M g) i = mL M i := fun i => rfl
  refine ⟨hS_of s p, ⟨g'.1, g'.2.1, fun x hx => ?_⟩, hU_of u p (hm _) hau (by simp), hY_of y s g' u p (hm _) (hm _) (fun j => vo _ _ (fun w => byc_ne_g8 y hg c2 w.symm)), hC_of cc s p (hm _) (hm _) (by simp), hO_of o p (hm _) (hm _) (by simp), hL_of l p (hm _) (hm _) (by simp) (by simp), hR_of r l p (hm _) (hm _) (by simp), hT_of tt p (hm _) (hm _) (by simp), hZ_of z p (hm _), nStem_of n1 s l u tt p (hm _) (hm _) (hm _) hau (by simp), nPail_of n2 s l u p (hm _) (hm _) (by simp), nCoin_of n3 s g' u p (hm _) (hm _) (by simp), nSold_of n4 s g' p (hm _) (by simp), nMisc_of n5 s p (by simp)⟩
  obtain ⟨d1, ⟨q2, d2, d3, d4⟩, d5⟩ := g'.2.2 x hx
  refine ⟨d1, ⟨q2, d2, d3, fun j hj => ?_⟩, d5⟩
  by_cases hq : q2 = q
  · have vz : aI (eDay M g) q j = 0 := by
      rw [vA]
      rcases j with _ | _ | _ | j
      · simp
      · simp
      · simp
      · omega
    rw [hq, vz]
    exact ⟨by decide, by decide⟩
  · rw [vo _ _ hq]
    exact d4 j hj
/-- the lamps paid -/
theorem hI_pays (h : hI m A cut bound K H e M) : hI m A cut bound (K - sm (fI M 102) (mL M (A 200))) H e ((mL M (A 200)).foldl ePay M) := by
  obtain ⟨s, g', u, y, cc, o, l, r, tt, z, n1, n2, n3, n4, n5⟩ := h
  generalize hN : (mL M (A 200)).foldl ePay M = N
  have kN : kd N = kd M := by rw [← hN, kd_ePays]
  have rN : fR N = fR M := by rw [← hN, fR_ePays]
  have lN : mL N = mL M := by rw [← hN, mL_ePays]
  have aN : aI N = aI M := by rw [← hN, aI_ePays]
  have p : pAg (fun i => i = 101) M N := fun x _ => ⟨by rw [kN], fun i hi => by
    rw [← hN]; exact foldl_fI (i := i) (f := ePay) (fun M x a => by unfold ePay; exact fI_sI_ne _ _ _ _ _ _ hi) _ _ _, fun i => by rw [rN]⟩
  have v101 : ∀ x ∈ mL M (A 200), fI N 101 x = fI M 101 x - fI M 102 x := fun x hx => by
    rw [← hN, foldl_once (f := ePay) (i := 101) (G := fun M x => fI M 101 x - fI M 102 x) (fun M x a => by unfold ePay; rw [fI_set]; simp only [true_and]) (fun M x a hxa => by
      show fI (ePay M x) 101 a - fI (ePay M x) 102 a = _
      unfold ePay
      rw [fI_sI_na _ _ _ _ _ _ hxa, fI_sI_ne _ _ _ _ _ _ (by decide)]) _ _ _ g'.1, if_pos hx]
  have hsum : ∀ (l : List Nat), (∀ x ∈ l, fI N 101 x = fI M 101 x - fI M 102 x) → sm (fI N 101) l = sm (fI M 101) l - sm (fI M 102) l := by
    intro l
    induction l with
    | nil => intro _; show (0 : Int32) = 0 - 0; decide
    | cons x l ih =>
      intro hl
      show fI N 101 x + sm (fI N 101) l = (fI M 101 x + sm (fI M 101) l) - (fI M 102 x + sm (fI M 102) l)
      rw [hl x List.mem_cons_self, ih (fun y hy => hl y (List.mem_cons_of_mem _ hy))]
      generalize fI M 101 x = a1
      generalize fI M 102 x = a2
      generalize sm (fI M 101) l = a3
      generalize sm (fI M 102) l = a4
      grind
  refine ⟨hS_of s p, hG_of g' p (by rw [lN]) (aI_all aN) (by simp) (by simp), hU_of u p (by rw [lN]) (aI_all aN) (by simp), hY_of y s g' u p (by rw [lN]) (by rw [lN]) (fun _ => by rw [aN]), hC_of cc s p (by rw [lN]) (by rw [lN]) (by simp), hO_of o p (by rw [lN]) (by rw [lN]) (by simp), hL_of l p (by rw [lN]) (by rw [lN]) (by simp) (by simp), hR_of r l p (by rw [lN]) (by rw [lN]) (by simp), hT_of tt p (by rw [lN]) (by rw [lN]) (by simp), hZ_of z p (by rw [lN]), nStem_of n1 s l u tt p (by rw [lN]) (by rw [lN]) (by rw [lN]) (aI_all aN) (by simp), nPail_of n2 s l u p (by rw [lN]) (by rw [lN]) (by simp), ?_, nSold_of n4 s g' p (by rw [lN]) (by simp), nMisc_of n5 s p (by simp)⟩
  have e2 : sm (fI N 23) (mL M (A 204)) = sm (fI M 23) (mL M (A 204)) := sm_congr _ (fun x hx => (p x (by rw [(u.2.2.2 x hx).1]; decide)).2.1 _ (by simp))
  have em := (p m (by rw [s.1]; decide)).2.1 214 (by simp)
  unfold nCoin at n3 ⊢
  rw [lN, hsum _ v101, e2, em, ← n3]
  generalize sm (fI M 101) (mL M (A 200)) = a1
  generalize sm (fI M 102) (mL M (A 200)) = a2
  generalize sm (fI M 23) (mL M (A 204)) = a3
  generalize fI M 214 m = a4
  grind
/-- a lot's life lost -/
theorem hI_life (h : hI m A cut bound K H e M) {x : Nat} {v : Int32} (hv : 0 ≤ iv v ∧ iv v ≤ 110) : hI m A cut bound K H e (sI M 126 x v) := by
  obtain ⟨s, g', u, y, cc, o, l, r, tt, z, n1, n2, n3, n4, n5⟩ := h
  have p := pAg_sI M 126 x v
  refine ⟨hS_of s p, hG_of g' p rfl (aI_all rfl) (by simp) (by simp), hU_of u p rfl (aI_all rfl) (by simp), hY_of y s g' u p rfl rfl (fun _ => rfl), hC_of cc s p rfl rfl (by simp), hO_of o p rfl rfl (by simp), ⟨l.1, l.2.1, fun i a ha => by rw [fI_sI_ne _ _ _ _ _ _ (by decide)]; exact l.2.2.1 i a ha, fun a ha => ?_⟩, hR_of r l p rfl rfl (by simp), hT_of tt p rfl rfl (by simp), hZ_of z p rfl, nStem_of n1 s l u tt p rfl rfl rfl (aI_all rfl) (by simp), nPail_of n2 s l u p rfl rfl (by simp), nCoin_of n3 s g' u p rfl rfl (by simp), nSold_of n4 s g' p rfl (by simp), nMisc_of n5 s p (by simp)⟩
  obtain ⟨a1, a2, a3, a4, a5, a6, a7⟩ := l.2.2.2 a ha
  have ee := p a (by omega)
  refine ⟨a1, gLk_of p rfl (by omega) (by simp) a2, by rw [ee.2.1 123 (by simp)]; exact a3, by rw [ee.2.1 125 (by simp)]; exact a4, by rw [ee.2.1 127 (by simp), ee.2.1 125 (by simp)]; exact a5, ?_, by rw [ee.2.1 129 (by simp), ee.2.1 125 (by simp)]; exact a7⟩
  rw [fI_set]
  split
  · exact hv
  · exact a6
theorem hI_lose (h : hI m A cut bound K H e M) {x : Nat} (hx : x ∈ mL M (A 202)) : hI m A cut bound K H e (eLose M x) := by
  obtain ⟨a1, a2, a3, a4, a5, a6, a7⟩ := h.2.2.2.2.2.2.1.2.2.2 x hx
  unfold eLose
  split
  · exact h
  · refine hI_life h ?_
    have hl : 1 ≤ iv (vLost (fI M 128 x)) ∧ iv (vLost (fI M 128 x)) ≤ 6 := by
      unfold vLost
      split
      · exact ⟨by decide, by decide⟩
      · split <;> exact ⟨by decide, by decide⟩
    have e1 : iv (fI M 126 x - vLost (fI M 128 x)) = iv (fI M 126 x) - iv (vLost (fI M 128 x)) := iv_sub (by omega) (by omega)
    have e2 := iv_vMax 0 (fI M 126 x - vLost (fI M 128 x))
    rw [e1, iv_0] at e2
    rw [e2]
    split <;> omega
theorem hI_loseT (h : hI m A cut bound K H e M) {x : Nat} (hx : x ∈ mL M (A 206)) : hI m A cut bound K H e (eLoseT M x) := by
  obtain ⟨s, g', u, y, cc, o, l, r, tt, z, n1, n2, n3, n4, n5⟩ := h
  unfold eLoseT
  have p := pAg_sI M 183 x (vMax 0 (fI M 183 x - 3))
  refine ⟨hS_of s p, hG_of g' p rfl (aI_all rfl) (by simp) (by simp), hU_of u p rfl (aI_all rfl) (by simp), hY_of y s g' u p rfl rfl (fun _ => rfl), hC_of cc s p rfl rfl (by simp), hO_of o p rfl rfl (by simp), hL_of l p rfl rfl (by simp) (by simp), hR_of r l p rfl rfl (by simp), fun q hq => ?_, hZ_of z p rfl, nStem_of n1 s l u tt p rfl rfl rfl (aI_all rfl) (by simp), nPail_of n2 s l u p rfl rfl (by simp), nCoin_of n3 s g' u p rfl rfl (by simp), nSold_of n4 s g' p rfl (by simp), nMisc_of n5 s p (by simp)⟩
  obtain ⟨b1, b2, b3, b4, b5⟩ := tt q hq
  have ee := p q (by omega)
  refine ⟨b1, b2, by rw [ee.2.1 181 (by simp)]; exact b3, by rw [ee.2.1 182 (by simp)]; exact b4, ?_⟩
  rw [fI_set]
  split
  · rw [iv_vMax, iv_0]
    split <;> omega
  · exact b5
end HR
