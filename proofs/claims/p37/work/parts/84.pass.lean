section PS
variable {A : Nat → Nat} {cut bound : Int} {K : Int32} {H : Int} {e : Nat} {M : kx_M} {m : Nat}
theorem div_step {a d : Int} (hd : 1 ≤ d) (ha : 1 ≤ a) : 1 ≤ (a + d - 1) / d ∧ (a ≤ d → (a + d - 1) / d = 1) ∧ (a - d + d - 1) / d = (a + d - 1) / d - 1 ∧ (a + d - 1) / d ≤ a := by
  have h1 : (a - 1 + 1 * d) / d = (a - 1) / d + 1 := Int.add_mul_ediv_right _ _ (by omega)
  have e1 : a + d - 1 = a - 1 + 1 * d := by omega
  have e2 : a - d + d - 1 = a - 1 := by omega
  rw [e1, e2, h1]
  have h0 : 0 ≤ (a - 1) / d := Int.ediv_nonneg (by omega) (by omega)
  have h3 : (a - 1) / d ≤ a - 1 := Int.ediv_le_self _ (by omega)
  refine ⟨by omega, fun h => ?_, by omega, by omega⟩
  have : (a - 1) / d = 0 := Int.ediv_eq_zero_of_lt (by omega) (by omega)
  omega
/-- a crop's readiness as a whole number -/
def rZ (M : kx_M) (m c : Nat) : Int := iv (vReady M m c)
theorem rZ_val (h : hI m A cut bound K H e M) {c : Nat} (hc : c ∈ mL M (A 201)) : ∃ g, g ∈ mL M (A 200) ∧ rf M 80 c = g ∧ 0 ≤ iv (fI M 102 g) ∧ iv (fI M 102 g) ≤ 3 ∧ (fI M 85 c = 0 ∧ iv (fI M 84 c) < iv (vSum (fI M 82 c)) ∧ (iv (fI M 211 m) + iv (fI M 102 g) < 1 ∧ rZ M m c = -1 ∨ 1 ≤ iv (fI M 211 m) + iv (fI M 102 g) ∧ rZ M m c = (iv (vSum (fI M 82 c)) - iv (fI M 84 c) + (iv (fI M 211 m) + iv (fI M 102 g)) - 1) / (iv (fI M 211 m) + iv (fI M 102 g))) ∨ fI M 85 c = 1 ∧ iv (vSum (fI M 82 c)) ≤ iv (fI M 84 c) ∧ rZ M m c = 0) := by
  obtain ⟨s, g', u, y, cc, o, l, r, tt, z, n1, n2, n3, n4, n5⟩ := h
  obtain ⟨c1, ⟨k, g, d1, d2, d3⟩, c3, c4, c5, c6⟩ := cc.2.2 c hc
  have hgm : g ∈ mL M (A 200) := List.mem_of_getElem? d1
  obtain ⟨-, -, w1, w2, -⟩ := g'.2.2 g hgm
  have hr : rf M 80 c = g := by unfold rf; rw [d3]; rfl
  have n211 := n5.2.1
  have vs := vSum_in (fI M 82 c)
  have i1 : iv (fI M 211 m + fI M 102 g) = iv (fI M 211 m) + iv (fI M 102 g) := iv_add (by omega) (by omega)
  refine ⟨g, hgm, hr, w1, w2, ?_⟩
  unfold rZ vReady
  rw [hr]
  by_cases hs : vSum (fI M 82 c) ≤ fI M 84 c
  · rw [if_pos hs] at c6
    rw [c6, if_neg (by decide)]
    exact Or.inr ⟨rfl, iv_le.mp hs, iv_0⟩
  · rw [if_neg hs] at c6
    have hs' := mt iv_le.mpr hs
    rw [c6, if_pos rfl]
    refine Or.inl ⟨rfl, by omega, ?_⟩
    by_cases h1 : fI M 211 m + fI M 102 g < 1
    · rw [if_pos h1]
      have h1' := iv_lt.mp h1
      rw [i1, iv_1] at h1'
      exact Or.inl ⟨h1', iv_m1⟩
    · rw [if_neg h1]
      have h1' := mt iv_lt.mpr h1
      rw [i1, iv_1] at h1'
      refine Or.inr ⟨by omega, ?_⟩
      have j1 : iv (vSum (fI M 82 c) - fI M 84 c) = iv (vSum (fI M 82 c)) - iv (fI M 84 c) := iv_sub (by omega) (by omega)
      have j2 : iv (vSum (fI M 82 c) - fI M 84 c + (fI M 211 m + fI M 102 g)) = iv (vSum (fI M 82 c)) - iv (fI M 84 c) + (iv (fI M 211 m) + iv (fI M 102 g)) := by
        rw [iv_add (by rw [j1, i1]; omega) (by rw [j1, i1]; omega), j1, i1]
      have j3 : iv (vSum (fI M 82 c) - fI M 84 c + (fI M 211 m + fI M 102 g) - 1) = iv (vSum (fI M 82 c)) - iv (fI M 84 c) + (iv (fI M 211 m) + iv (fI M 102 g)) - 1 := by
        rw [iv_sub (by rw [j2, iv_1]; omega) (by rw [j2, iv_1]; omega), j2, iv_1]
      rw [iv_div (by rw [i1]; omega), j3, i1, Int.tdiv_eq_ediv_of_nonneg (by omega)]
theorem rZ_bnd (h : hI m A cut bound K H e M) {c : Nat} (hc : c ∈ mL M (A 201)) : -1 ≤ rZ M m c ∧ rZ M m c ≤ 120 ∧ (rZ M m c = 0 ↔ fI M 85 c = 1) ∧ (fI M 85 c = 0 ∨ fI M 85 c = 1) := by
  obtain ⟨g, -, -, -, -, h1⟩ := rZ_val h hc
  have vs := vSum_in (fI M 82 c)
  have h84 := (h.2.2.2.2.1.2.2 c hc).2.2.2.2.1.1
  rcases h1 with ⟨a1, a2, ⟨a3, a4⟩ | ⟨a3, a4⟩⟩ | ⟨a1, a2, a3⟩
  · rw [a4, a1]
    exact ⟨by omega, by omega, ⟨fun w => absurd w (by decide), fun w => absurd w (by decide)⟩, Or.inl rfl⟩
  · obtain ⟨d1, -, -, d4⟩ := div_step a3 (a := iv (vSum (fI M 82 c)) - iv (fI M 84 c)) (by omega)
    rw [a4, a1]
    exact ⟨by omega, by omega, ⟨fun w => absurd w (by omega), fun w => absurd w (by decide)⟩, Or.inl rfl⟩
  · rw [a3, a1]
    exact ⟨by omega, by omega, ⟨fun _ => rfl, fun _ => rfl⟩, Or.inr rfl⟩
/-- an hour's readiness -/
theorem rZ_step (h : hI m A cut bound K H e M) (hH : H ≤ 10000) {N : kx_M} (hN : N = (eRailN m 2 (eHour m M) (eHour m M, 0)).1) {c : Nat} (hc : c ∈ mL M (A 201)) : rZ N m c = if rZ M m c < 0 then -1 else if 1 < rZ M m c then rZ M m c - 1 else 0 := by
  obtain ⟨f1, f2, f3, f4, f5, f6, f7⟩ := hour_crop h hN
  obtain ⟨f84, f85, f82⟩ := f1 c hc
  have r6 : rf (eHour m M) 206 m = A 206 := by unfold rf; rw [fR_eHour, h.1.2.1 206 (by decide) (by decide)]; rfl
  have hIN := (hI_railN (eHour m M) r6 2 (eHour m M) 0 (hI_hour h hH)).1
  rw [← hN] at hIN
  obtain ⟨g, hg, hr, w1, w2, h1⟩ := rZ_val h hc
  obtain ⟨g2, hg2, hr2, -, -, h2⟩ := rZ_val hIN (by rw [f5]; exact hc)
  have hgg : g2 = g := by
    rw [← hr2, ← hr]
    unfold rf
    rw [f4]
  rw [hgg, f82, f2, f3] at h2
  have n211 := h.2.2.2.2.2.2.2.2.2.2.2.2.2.2.2.1
  have n210 := h.2.2.2.2.2.2.2.2.2.2.2.2.2.2.1
  have c5 := (h.2.2.2.2.1.2.2 c hc).2.2.2.2.1
  have vs := vSum_in (fI M 82 c)
  have i84 : iv (fI N 84 c) = iv (fI M 84 c) + (iv (fI M 211 m) + iv (fI M 102 g)) := by
    rw [f84]
    unfold g84
    rw [hr]
    have i1 : iv (fI M 211 m + fI M 102 g) = iv (fI M 211 m) + iv (fI M 102 g) := iv_add (by omega) (by omega)
    rw [iv_add (by rw [i1]; omega) (by rw [i1]; omega), i1]
  rcases h1 with ⟨a1, a2, ⟨a3, a4⟩ | ⟨a3, a4⟩⟩ | ⟨a1, a2, a3⟩
  · rw [a4, if_pos (by decide)]
    rcases h2 with ⟨b1, b2, ⟨b3, b4⟩ | ⟨b3, b4⟩⟩ | ⟨b1, b2, b3⟩
    · exact b4
    · omega
    · omega
  · obtain ⟨d1, d2, d3, d4⟩ := div_step a3 (a := iv (vSum (fI M 82 c)) - iv (fI M 84 c)) (by omega)
    rcases h2 with ⟨b1, b2, ⟨b3, b4⟩ | ⟨b3, b4⟩⟩ | ⟨b1, b2, b3⟩
    · omega
    · obtain ⟨d1', -⟩ := div_step b3 (a := iv (vSum (fI M 82 c)) - iv (fI N 84 c)) (by omega)
      have e1 : iv (vSum (fI M 82 c)) - iv (fI N 84 c) = iv (vSum (fI M 82 c)) - iv (fI M 84 c) - (iv (fI M 211 m) + iv (fI M 102 g)) := by omega
      rw [e1] at b4 d1'
      rw [d3] at b4 d1'
      rw [b4, a4, if_neg (by omega), if_pos (by omega)]
    · have := d2 (by omega)
      rw [b3, a4, this, if_neg (by decide), if_neg (by decide)]
  · rw [a3, if_neg (by decide), if_neg (by decide)]
    rcases h2 with ⟨b1, b2, ⟨b3, b4⟩ | ⟨b3, b4⟩⟩ | ⟨b1, b2, b3⟩
    · omega
    · omega
    · exact b3
theorem hI_light (h : hI m A cut bound K H e M) {x : Int32} (hx : 0 ≤ iv x ∧ iv x ≤ 9) : hI m A cut bound K H e (sI M 211 m x) := by
  obtain ⟨s, g', u, y, cc, o, l, r, tt, z, n1, n2, n3, n4, n5⟩ := h
  have p := pAg_sI M 211 m x
  exact ⟨hS_of s p, hG_of g' p rfl (aI_all rfl) (by simp) (by simp), hU_of u p rfl (aI_all rfl) (by simp), hY_of y s g' u p rfl rfl (fun _ => rfl), hC_of cc s p rfl rfl (by simp), hO_of o p rfl rfl (by simp), hL_of l p rfl rfl (by simp) (by simp), hR_of r l p rfl rfl (by simp), hT_of tt p rfl rfl (by simp), hZ_of z p rfl, nStem_of n1 s l u tt p rfl rfl rfl (aI_all rfl) (by simp), nPail_of n2 s l u p rfl rfl (by simp), nCoin_of n3 s g' u p rfl rfl (by simp), nSold_of n4 s g' p rfl (by simp), ⟨by rw [fI_sI_ne _ _ _ _ _ _ (by decide)]; exact n5.1, by rw [fI_sI_eq]; exact hx, by rw [fI_sI_ne _ _ _ _ _ _ (by decide)]; exact n5.2.2⟩⟩
/-- hours -/
theorem hI_hours : ∀ (n : Nat) (M : kx_M) (x K : Int32) (H : Int), hI m A cut bound K H e M → H + (n : Int) ≤ 10000 → hI m A cut bound (K - nI n * sm (fI M 102) (mL M (A 200))) (H + (n : Int)) e (eHours m n (M, x)).1 ∧ (∃ k, k ≤ 2 * n ∧ (eHours m n (M, x)).2 = x + nI k) ∧ (∀ c ∈ mL M (A 201), rZ (eHours m n (M, x)).1 m c = if rZ M m c < 0 then -1 else if (n : Int) < rZ M m c then rZ M m c - n else 0) ∧ mL (eHours m n (M, x)).1 (A 201) = mL M (A 201) ∧ mL (eHours m n (M, x)).1 (A 200) = mL M (A 200) ∧ mL (eHours m n (M, x)).1 (A 202) = mL M (A 202) ∧ fI (eHours m n (M, x)).1 211 m = fI M 211 m ∧ (∀ g, fI (eHours m n (M, x)).1 102 g = fI M 102 g) := by
  intro n
  induction n with
  | zero =>
    intro M x K H h hH
    refine ⟨?_, ⟨0, by omega, by show x = x + 0; rw [Int32.add_zero]⟩, fun c hc => ?_, rfl, rfl, rfl, rfl, fun _ => rfl⟩
    · show hI m A cut bound (K - 0 * _) (H + 0) e M
      rw [Int32.zero_mul, Int32.sub_zero, Int.add_zero]
      exact h
    · show rZ M m c = _
      have := (rZ_bnd h hc).1
      split
      · omega
      · split <;> omega
  | succ n ih =>
    intro M x K H h hH
    have hH1 : H ≤ 10000 := by omega
    have r6 : rf (eHour m M) 206 m = A 206 := by unfold rf; rw [fR_eHour, h.1.2.1 206 (by decide) (by decide)]; rfl
    obtain ⟨h1, k1, hk1, hk2⟩ := hI_railN (eHour m M) r6 2 (eHour m M) 0 (hI_hour h hH1)
    obtain ⟨f1, f2, f3, f4, f5, f6, f7⟩ := hour_crop h (N := (eRailN m 2 (eHour m M) (eHour m M, 0)).1) rfl
    have hstep := fun c hc => rZ_step h hH1 (N := (eRailN m 2 (eHour m M) (eHour m M, 0)).1) rfl (c := c) hc
    have hE : eHours m (n + 1) (M, x) = eHours m n ((eRailN m 2 (eHour m M) (eHour m M, 0)).1, x + (eRailN m 2 (eHour m M) (eHour m M, 0)).2) := by exact (Eq.refl _)
    rw [hE]
    generalize eRailN m 2 (eHour m M) (eHour m M, 0) = R at *
    obtain ⟨i1, ⟨k2, i2, i3⟩, i4, i5, i6, i7, i8, i9⟩ := ih R.1 (x + R.2) _ _ h1 (by omega)
    have hsum : sm (fI R.1 102) (mL R.1 (A 200)) = sm (fI M 102) (mL M (A 200)) := by
      rw [f6]
      exact sm_congr _ (fun g _ => f3 g)
    rw [hsum] at i1
    have e1 : K - sm (fI M 102) (mL M (A 200)) - nI n * sm (fI M 102) (mL M (A 200)) = K - nI (n + 1) * sm (fI M 102) (mL M (A 200)) := by
      rw [← nI_1]
      generalize sm (fI M 102) (mL M (A 200)) = L
      generalize nI n = w
      grind
    have e2 : H + 1 + (n : Int) = H + ((n + 1 : Nat) : Int) := by omega
    rw [e1, e2] at i1
    refine ⟨i1, ⟨k1 + k2, by omega, ?_⟩, fun c hc => ?_, by rw [i5, f5], by rw [i6, f6], by rw [i7, f7], by rw [i8, f2], fun g => by rw [i9, f3]⟩
    · rw [i3, hk2, Int32.zero_add, Int32.add_assoc]
      show x + (Int32.ofNat k1 + Int32.ofNat k2) = x + Int32.ofNat (k1 + k2)
      rw [Int32.ofNat_add]
    · rw [i4 c (by rw [f5]; exact hc), hstep c hc]
      have := (rZ_bnd h hc).1
      generalize rZ M m c = R0 at *
      by_cases w : R0 < 0
      · rw [if_pos w, if_pos (by decide), if_pos w]
      · rw [if_neg w, if_neg w]
        by_cases w1 : 1 < R0
        · rw [if_pos w1, if_neg (by omega)]
          by_cases w2 : ((n + 1 : Nat) : Int) < R0
          · rw [if_pos w2, if_pos (by omega)]; omega
          · rw [if_neg w2, if_neg (by omega)]
        · rw [if_neg w1, if_neg (by decide), if_neg (by omega), if_neg (by omega)]
end PS
