theorem eLot_ne {N : kx_M} {a c x : Nat} {n st bk : Int32} (hx : x ≠ a) : kd (eLot N a n c st bk) x = kd N x ∧ (∀ i, fI (eLot N a n c st bk) i x = fI N i x) ∧ ∀ i, fR (eLot N a n c st bk) i x = fR N i x := by
  unfold eLot
  refine ⟨by simp only [kd_sI, kd_sR], fun i => ?_, fun i => ?_⟩
  · rw [fI_sI_na _ _ _ _ _ _ hx, fI_sI_na _ _ _ _ _ _ hx, fI_sI_na _ _ _ _ _ _ hx, fI_sI_na _ _ _ _ _ _ hx, fI_sI_na _ _ _ _ _ _ hx, fI_sI_na _ _ _ _ _ _ hx, fI_sR, fI_sI_na _ _ _ _ _ _ hx, fI_sI_na _ _ _ _ _ _ hx, fI_sI_na _ _ _ _ _ _ hx, fI_sI_na _ _ _ _ _ _ hx, fI_sI_na _ _ _ _ _ _ hx]
  · rw [fR_sI, fR_sI, fR_sI, fR_sI, fR_sI, fR_sI, fR_sR_na _ _ _ _ _ _ hx, fR_sI, fR_sI, fR_sI, fR_sI, fR_sI]
theorem eLot_a (N : kx_M) (a c : Nat) (n st bk : Int32) : fI (eLot N a n c st bk) 120 a = n ∧ fI (eLot N a n c st bk) 122 a = fI N 81 c ∧ fI (eLot N a n c st bk) 123 a = fI N 82 c ∧ fI (eLot N a n c st bk) 125 a = st ∧ fI (eLot N a n c st bk) 126 a = vMax 0 (vFresh (fI N 82 c) - 2 * fI N 86 c) ∧ fI (eLot N a n c st bk) 127 a = bk ∧ fI (eLot N a n c st bk) 129 a = 0 ∧ fR (eLot N a n c st bk) 121 a = some (rf N 80 c) := by
  unfold eLot
  simp only [fI_set, fI_sR, fR_sI, fR_sR_eq, Nat.reduceEqDiff, false_and, if_false, true_and, if_true, and_self]
theorem mL_eLot (N : kx_M) (a c : Nat) (n st bk : Int32) : mL (eLot N a n c st bk) = mL N := by unfold eLot; simp only [mL_sI, mL_sR]
theorem aI_eLot (N : kx_M) (a c : Nat) (n st bk : Int32) : aI (eLot N a n c st bk) = aI N := by unfold eLot; simp only [aI_sI, aI_sR]
theorem kd_eLot (N : kx_M) (a c : Nat) (n st bk : Int32) : kd (eLot N a n c st bk) = kd N := by unfold eLot; simp only [kd_sI, kd_sR]
theorem get_snoc {l : List Nat} {a i x : Nat} (h : (l ++ [a])[i]? = some x) : l[i]? = some x ∨ (i = l.length ∧ x = a) := by
  by_cases hi : i < l.length
  · rw [List.getElem?_append_left hi] at h
    exact Or.inl h
  · rw [List.getElem?_append_right (by omega)] at h
    have hi2 : i = l.length := by
      have := (List.getElem?_eq_some_iff.mp h).1
      simp at this
      omega
    rw [hi2, Nat.sub_self] at h
    exact Or.inr ⟨hi2, (Option.some.inj h).symm⟩
theorem nodup_snoc {l : List Nat} {a : Nat} (h : l.Nodup) (ha : a ∉ l) : (l ++ [a]).Nodup := by
  rw [List.nodup_append]
  exact ⟨h, by simp, fun x hx y hy => by
    rw [List.mem_singleton] at hy
    rw [hy]
    exact fun w => ha (by rw [← w]; exact hx)⟩
section OC
variable {m : Nat} {A : Nat → Nat} {cut bound : Int} {K : Int32} {H : Int} {e : Nat} {M : kx_M}
theorem hI_cut (h : hI m A cut bound K H e M) {c a : Nat} {st : Int32} (hc : c ∈ mL M (A 201)) (ha : kd M a = 0) (h1 : 1 ≤ iv st) (h2 : iv st ≤ 60) (h16 : (mL M (A 202)).length < 16) (hH : H ≤ 1000) : hI m A (cut + iv st) bound K H e (eCut M m c (A 202) a st) ∧ fI (eCut M m c (A 202) a st) 125 a = st ∧ mL (eCut M m c (A 202) a st) (A 202) = mL M (A 202) ++ [a] := by
  have hbn := stem_bnd h
  obtain ⟨s, g', u, y, cc, o, l, r, tt, z, n1, n2, n3, n4, n5⟩ := h
  obtain ⟨c1, ⟨k, g, c2, c3, c4⟩, c5, c6, c7, c8⟩ := cc.2.2 c hc
  have hca : c ≠ a := kx_ne c1 ha (by decide)
  have hma : m ≠ a := kx_ne s.1 ha (by decide)
  have hAa : ∀ i, 200 ≤ i → i ≤ 207 → A i ≠ a := fun i i1 i2 => kx_ne (s.2.2.1 i i1 i2) ha (by decide)
  have hrc : rf M 80 c = g := by unfold rf; rw [c4]; rfl
  have vb : iv (vBuckets st) = (iv st + 19) / 20 := iv_vBuckets (by omega)
  obtain ⟨w120, w122, w123, w125, w126, w127, w129, w121⟩ := eLot_a (sN M a 7 0) a c (nI (mL M (A 202)).length) st (vBuckets st)
  have hrN : rf (sN M a 7 0) 80 c = g := by unfold rf; rw [fR_sN_ne _ hca, c4]; rfl
  rw [fI_sN_ne _ hca] at w122 w123
  rw [fI_sN_ne _ hca, fI_sN_ne _ hca] at w126
  rw [hrN] at w121
  generalize hN0 : eCut M m c (A 202) a st = N0
  unfold eCut at hN0
  have p : pAg (fun i => i = 83 ∨ i = 212) M N0 := by
    intro x hx
    have hxa : x ≠ a := fun w => hx (by rw [w]; exact ha)
    obtain ⟨e1, e2, e3⟩ := eLot_ne (N := sN M a 7 0) (c := c) (n := nI (mL M (A 202)).length) (st := st) (bk := vBuckets st) hxa
    rw [← hN0]
    refine ⟨by rw [kd_sL, kd_sI, kd_sI, e1, kd_sN_ne hxa], fun i hi => ?_, fun i => by rw [fR_sL, fR_sI, fR_sI, e3, fR_sN_ne _ hxa]⟩
    rw [fI_sL, fI_sI_ne _ _ _ _ _ _ (fun w => hi (Or.inr w)), fI_sI_ne _ _ _ _ _ _ (fun w => hi (Or.inl w)), e2, fI_sN_ne _ hxa]
  have va : ∀ i, i ≠ 83 → i ≠ 212 → fI N0 i a = fI (eLot (sN M a 7 0) a (nI (mL M (A 202)).length) c st (vBuckets st)) i a := fun i i1 i2 => by
    rw [← hN0, fI_sL, fI_sI_ne _ _ _ _ _ _ i2, fI_sI_ne _ _ _ _ _ _ i1]
  have v120 := (va 120 (by decide) (by decide)).trans w120
  have v122 := (va 122 (by decide) (by decide)).trans w122
  have v123 := (va 123 (by decide) (by decide)).trans w123
  have v125 := (va 125 (by decide) (by decide)).trans w125
  have v126 := (va 126 (by decide) (by decide)).trans w126
  have v127 := (va 127 (by decide) (by decide)).trans w127
  have v129 := (va 129 (by decide) (by decide)).trans w129
  have vk : kd N0 a = 7 := by rw [← hN0, kd_sL, kd_sI, kd_sI, kd_eLot, kd_sN]
  have v121 : fR N0 121 a = some g := by rw [← hN0, fR_sL, fR_sI, fR_sI, w121]
  have v212 : fI N0 212 m = fI M 212 m - vBuckets st := by rw [← hN0, fI_sL, fI_sI_eq]
  have vL : ∀ i, 200 ≤ i → i ≤ 207 → i ≠ 202 → mL N0 (A i) = mL M (A i) := fun i i1 i2 i3 => by
    rw [← hN0, mL_sL_ne _ _ _ _ (fun w => i3 (s.2.2.2.2.2 i 202 i1 i2 (by decide) (by decide) w)), mL_sI, mL_sI, mL_eLot, mL_sN_ne (hAa i i1 i2)]
  have vR : mL N0 (A 202) = mL M (A 202) ++ [a] := by rw [← hN0, mL_sL_eq]
  have hA : ∀ x j, kd M x = 3 → aI N0 x j = aI M x j := fun x j hx => by
    rw [← hN0, aI_sL, aI_sI, aI_sI, aI_eLot, aI_sN_ne (kx_ne hx ha (by decide))]
  have l0 := vL 200 (by decide) (by decide) (by decide)
  have l1 := vL 201 (by decide) (by decide) (by decide)
  have l3 := vL 203 (by decide) (by decide) (by decide)
  have l4 := vL 204 (by decide) (by decide) (by decide)
  have l5 := vL 205 (by decide) (by decide) (by decide)
  have l6 := vL 206 (by decide) (by decide) (by decide)
  have l7 := vL 207 (by decide) (by decide) (by decide)
  have hag : ∀ x ∈ mL M (A 200), ∀ q, fR M 100 x = some q → ∀ j, aI N0 q j = aI M q j := fun x hx q hq j => by
    obtain ⟨-, ⟨q', b2, b3, -⟩, -⟩ := g'.2.2 x hx
    rw [hq] at b2; cases b2
    exact hA q j b3
  have hau : ∀ x ∈ mL M (A 204), ∀ q, fR M 22 x = some q → ∀ j, aI N0 q j = aI M q j := fun x hx q hq j => by
    obtain ⟨-, ⟨q', b2, b3, -⟩, -⟩ := u.2.2.2 x hx
    rw [hq] at b2; cases b2
    exact hA q j b3
  have hna : a ∉ mL M (A 202) := fun w => by
    have := (l.2.2.2 a w).1
    omega
  refine ⟨⟨hS_of s p, hG_of g' p l0 hag (by simp) (by simp), hU_of u p l4 hau (by simp), hY_of y s g' u p l0 l4 (fun j => hA _ j s.2.2.2.1), hC_of cc s p l1 l0 (by simp), hO_of o p l5 l4 (by simp), ?_, ?_, hT_of tt p l6 l4 (by simp), hZ_of z p l7, ?_, ?_, nCoin_of n3 s g' u p l0 l4 (by simp), nSold_of n4 s g' p l0 (by simp), nMisc_of n5 s p (by simp)⟩, v125, vR⟩
  · refine ⟨by rw [vR]; exact nodup_snoc l.1 hna, by rw [vR, List.length_append]; show _ + 1 ≤ 16; omega, fun i x hx => ?_, fun x hx => ?_⟩
    · rw [vR] at hx
      rcases get_snoc hx with hx | ⟨hi, hx⟩
      · rw [(p x (by rw [(l.2.2.2 x (List.mem_of_getElem? hx)).1]; decide)).2.1 120 (by simp)]
        exact l.2.2.1 i x hx
      · rw [hx, hi, v120]
    · rw [vR] at hx
      rcases List.mem_append.mp hx with hx | hx
      · exact pLot_of (l.2.2.2 x hx) p l0 (by simp)
      · rw [List.mem_singleton] at hx
        subst hx
        have hfr : 0 ≤ iv (vFresh (fI M 82 c)) ∧ iv (vFresh (fI M 82 c)) ≤ 110 := by
          unfold vFresh
          split
          · exact ⟨by decide, by decide⟩
          · split <;> exact ⟨by decide, by decide⟩
        have h86 : iv (fI M 86 c) ≤ 1000 := by
          have := n5.1.2
          omega
        have e2 : iv (2 * fI M 86 c) = 2 * iv (fI M 86 c) := by rw [iv_mul (by rw [iv_2]; omega) (by rw [iv_2]; omega), iv_2]
        have e3 : iv (vFresh (fI M 82 c) - 2 * fI M 86 c) = iv (vFresh (fI M 82 c)) - 2 * iv (fI M 86 c) := by rw [iv_sub (by rw [e2]; omega) (by rw [e2]; omega), e2]
        have e4 := iv_vMax 0 (vFresh (fI M 82 c) - 2 * fI M 86 c)
        rw [e3, iv_0] at e4
        refine ⟨vk, ⟨k, g, by rw [l0]; exact c2, by rw [v122, c3], v121⟩, by rw [v123]; exact c5, by rw [v125]; omega, by rw [v125, v127, vb]; omega, ?_, Or.inl ⟨Or.inl v129, by rw [v125]; exact h1⟩⟩
        rw [v126, e4]
        split <;> omega
  · obtain ⟨a1, a2, a3⟩ := r
    have e1 : ∀ x ∈ mL M (A 202), fI N0 129 x = fI M 129 x := fun x hx => (p x (by rw [(l.2.2.2 x hx).1]; decide)).2.1 _ (by simp)
    refine ⟨by rw [l3]; exact a1, fun x hx => ?_, ?_⟩
    · rw [l3] at hx
      obtain ⟨b1, b2⟩ := a2 x hx
      rw [vR, e1 x b1]
      exact ⟨List.mem_append_left _ b1, b2⟩
    · rw [l3, vR, a3, List.filter_append, List.length_append]
      have e2 : (mL M (A 202)).filter (fun x => decide (fI N0 129 x = 1)) = (mL M (A 202)).filter (fun x => decide (fI M 129 x = 1)) := List.filter_congr (fun x hx => by rw [e1 x hx])
      have e3 : [a].filter (fun x => decide (fI N0 129 x = 1)) = [] := by
        rw [List.filter_cons, v129]
        rfl
      rw [e2, e3]
      rfl
  · obtain ⟨k1, k2, k3, k4⟩ := n1
    have e1 : sz (fun x => iv (fI N0 125 x)) (mL M (A 202)) = sz (fun x => iv (fI M 125 x)) (mL M (A 202)) := sz_congr _ (fun x hx => by rw [(p x (by rw [(l.2.2.2 x hx).1]; decide)).2.1 _ (by simp)])
    have e2 : sz (stk N0) (mL M (A 204)) = sz (stk M) (mL M (A 204)) := sz_congr _ (fun b hb => by
      obtain ⟨b1, ⟨q, b2, b3, -⟩, -⟩ := u.2.2.2 b hb
      have hq : rf M 22 b = q := by unfold rf; rw [b2]; rfl
      unfold stk
      rw [rf_of p (by omega), hq, hA q 0 b3, hA q 1 b3, hA q 2 b3])
    have e3 : sz (fun q => iv (fI N0 182 q)) (mL M (A 206)) = sz (fun q => iv (fI M 182 q)) (mL M (A 206)) := sz_congr _ (fun x hx => by rw [(p x (by rw [(tt x hx).1]; decide)).2.1 _ (by simp)])
    have e4 : fI N0 215 m = fI M 215 m := (p m (by rw [s.1]; decide)).2.1 _ (by simp)
    have e5 : sz (fun x => iv (fI N0 125 x)) [a] = iv st := by
      show iv (fI N0 125 a) + 0 = iv st
      rw [v125]; omega
    unfold nStem
    rw [l4, l6, vR, sz_app, e1, e2, e3, e4, e5, List.length_append]
    show _ ∧ _ ∧ _ ∧ cut + iv st ≤ 60 * (((mL M (A 202)).length + 1 : Nat) : Int)
    omega
  · have e1 : sm (fI N0 127) (mL M (A 202)) = sm (fI M 127) (mL M (A 202)) := sm_congr _ (fun x hx => (p x (by rw [(l.2.2.2 x hx).1]; decide)).2.1 _ (by simp))
    have e3 : sm (fI N0 26) (mL M (A 204)) = sm (fI M 26) (mL M (A 204)) := sm_congr _ (fun x hx => (p x (by rw [(u.2.2.2 x hx).1]; decide)).2.1 _ (by simp))
    have e5 : sm (fI N0 127) [a] = vBuckets st := by
      show fI N0 127 a + 0 = _
      rw [v127, Int32.add_zero]
    unfold nPail at n2 ⊢
    rw [l4, vR, sm_app, e1, e3, e5, v212]
    generalize sm (fI M 127) (mL M (A 202)) = a1 at *
    generalize sm (fI M 26) (mL M (A 204)) = a2 at *
    generalize vBuckets st = a3 at *
    generalize fI M 212 m = a4 at *
    clear e1 e3 e5 va v120 v122 v123 v125 v126 v127 v129 v121 v212 p hN0 w120 w122 w123 w125 w126 w127 w129 w121
    grind
end OC
