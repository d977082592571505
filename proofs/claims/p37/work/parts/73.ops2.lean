theorem filt_up {p q : Nat → Bool} {a : Nat} : ∀ (l : List Nat), l.Nodup → a ∈ l → p a = false → q a = true → (∀ x ∈ l, x ≠ a → q x = p x) → (l.filter q).length = (l.filter p).length + 1 := by
  intro l
  induction l with
  | nil => intro _ h; exact absurd h List.not_mem_nil
  | cons x l ih =>
    intro hn ha hp hq h
    obtain ⟨h1, h2⟩ := List.nodup_cons.mp hn
    rw [List.filter_cons, List.filter_cons]
    by_cases hx : x = a
    · subst hx
      rw [hp, hq, if_pos rfl, if_neg (by decide), List.length_cons]
      have : l.filter q = l.filter p := List.filter_congr (fun y hy => h y (List.mem_cons_of_mem _ hy) (fun z => h1 (by rw [← z]; exact hy)))
      rw [this]
    · rw [h x List.mem_cons_self hx]
      have := ih h2 ((List.mem_cons.mp ha).resolve_left (fun z => hx z.symm)) hp hq (fun y hy => h y (List.mem_cons_of_mem _ hy))
      split
      · rw [List.length_cons, List.length_cons, this]
      · exact this
section OQ
variable {m : Nat} {A : Nat → Nat} {cut bound : Int} {K : Int32} {H : Int} {e : Nat} {M : kx_M}
/-- bounds of the stems -/
theorem stem_bnd (h : hI m A cut bound K H e M) : 0 ≤ sz (fun x => iv (fI M 125 x)) (mL M (A 202)) ∧ 0 ≤ sz (stk M) (mL M (A 204)) ∧ 0 ≤ sz (fun q => iv (fI M 182 q)) (mL M (A 206)) ∧ cut ≤ 960 := by
  obtain ⟨s, hg, u, y, c, o, l, r, t, z, ⟨n1, n2, n3, n4⟩, -⟩ := h
  have l16 := l.2.1
  refine ⟨sz_nn _ (fun x hx => (l.2.2.2 x hx).2.2.2.1.1), sz_nn _ (fun b hb => ?_), sz_nn _ (fun q hq => ?_), by omega⟩
  · obtain ⟨-, ⟨q, b2, -, b4⟩, -⟩ := u.2.2.2 b hb
    have hq : rf M 22 b = q := by unfold rf; rw [b2]; rfl
    unfold stk
    rw [hq]
    have := b4 0 (by decide)
    have := b4 1 (by decide)
    have := b4 2 (by decide)
    omega
  · have := (t q hq).2.2.2.1
    omega
theorem hI_clear (h : hI m A cut bound K H e M) {t g : Nat} (ht : t ∈ mL M (A 202)) (hg : g ∈ mL M (A 200)) (h0 : fI M 129 t = 0) : hI m A cut bound K H e (eClear M m t g 1) := by
  have hb := stem_bnd h
  have hst : iv (fI M 125 t) ≤ sz (fun x => iv (fI M 125 x)) (mL M (A 202)) := sz_ge (f := fun x => iv (fI M 125 x)) _ (fun x hx => (h.2.2.2.2.2.2.1.2.2.2 x hx).2.2.2.1.1) ht
  obtain ⟨s, g', u, y, c, o, l, r, tt, z, n1, n2, n3, n4, n5⟩ := h
  generalize hN0 : sI (sI (sI (sI (sI M 215 m (fI M 215 m + fI M 125 t)) 212 m (fI M 212 m + fI M 127 t)) 125 t 0) 127 t 0) 129 t 3 = N0
  have hE : eClear M m t g 1 = sI N0 103 g (vMin 100 (fI M 103 g + 1)) := by
    unfold eClear
    rw [hN0]
    exact if_neg (show ¬ (1 : Int32) = 0 by decide)
  have p : pAg (fun i => (((i = 215 ∨ i = 212) ∨ i = 125) ∨ i = 127) ∨ i = 129) M N0 := by
    rw [← hN0]
    exact ((((pAg_sI M _ _ _).tr (pAg_sI _ _ _ _)).tr (pAg_sI _ _ _ _)).tr (pAg_sI _ _ _ _)).tr (pAg_sI _ _ _ _)
  have v125 : ∀ x, fI N0 125 x = if x = t then 0 else fI M 125 x := fun x => by
    rw [← hN0]; simp only [fI_set, Nat.reduceEqDiff, false_and, if_false, true_and]
  have v127 : ∀ x, fI N0 127 x = if x = t then 0 else fI M 127 x := fun x => by
    rw [← hN0]; simp only [fI_set, Nat.reduceEqDiff, false_and, if_false, true_and]
  have v129 : ∀ x, fI N0 129 x = if x = t then 3 else fI M 129 x := fun x => by
    rw [← hN0]; simp only [fI_set, Nat.reduceEqDiff, false_and, if_false, true_and]
  have v215 : fI N0 215 m = fI M 215 m + fI M 125 t := by
    rw [← hN0]; simp only [fI_set, Nat.reduceEqDiff, false_and, if_false, true_and, if_true, and_self]
  have v212 : fI N0 212 m = fI M 212 m + fI M 127 t := by
    rw [← hN0]; simp only [fI_set, Nat.reduceEqDiff, false_and, if_false, true_and, if_true, and_self]
  have hmL : mL N0 = mL M := by rw [← hN0]; rfl
  have haI : aI N0 = aI M := by rw [← hN0]; rfl
  have l' : hL A N0 := by
    refine ⟨by rw [hmL]; exact l.1, by rw [hmL]; exact l.2.1, fun i x hx => ?_, fun x hx => ?_⟩
    · rw [hmL] at hx
      rw [(p x (by rw [(l.2.2.2 x (List.mem_of_getElem? hx)).1]; decide)).2.1 120 (by simp)]
      exact l.2.2.1 i x hx
    · rw [hmL] at hx
      obtain ⟨a1, a2, a3, a4, a5, a6, a7⟩ := l.2.2.2 x hx
      have ee := p x (by omega)
      refine ⟨by rw [ee.1, a1], gLk_of p (by rw [hmL]) (by omega) (by simp) a2, by rw [ee.2.1 123 (by simp)]; exact a3, ?_, ?_, by rw [ee.2.1 126 (by simp)]; exact a6, ?_⟩
      · rw [v125]; split
        · exact ⟨by decide, by decide⟩
        · exact a4
      · rw [v125, v127]; split
        · exact ⟨by decide, by decide⟩
        · exact a5
      · rw [v125, v129]; split
        · exact Or.inr ⟨Or.inr rfl, by decide⟩
        · exact a7
  have r' : hR A N0 e := by
    obtain ⟨a1, a2, a3⟩ := r
    refine ⟨by rw [hmL]; exact a1, fun x hx => ?_, ?_⟩
    · rw [hmL] at hx ⊢
      obtain ⟨b1, b2⟩ := a2 x hx
      refine ⟨b1, ?_⟩
      rw [v129, if_neg (fun w => by rw [w, h0] at b2; exact absurd b2 (by decide))]
      exact b2
    · rw [hmL, a3]
      refine congrArg List.length (List.filter_congr (fun x hx => ?_))
      rw [v129]
      by_cases hxt : x = t
      · rw [if_pos hxt, hxt, h0]; decide
      · rw [if_neg hxt]
  have st' : nStem m A cut bound N0 := by
    obtain ⟨k1, k2, k3, k4⟩ := n1
    have e1 : sz (fun x => iv (fI N0 125 x)) (mL M (A 202)) = sz (fun x => iv (fI M 125 x)) (mL M (A 202)) + (iv (fI N0 125 t) - iv (fI M 125 t)) := sz_upd _ l.1 ht (fun x _ hx => by rw [v125, if_neg hx])
    have e2 : sz (stk N0) (mL M (A 204)) = sz (stk M) (mL M (A 204)) := sz_congr _ (fun b hb' => by
      unfold stk
      rw [haI, rf_of p (by rw [(u.2.2.2 b hb').1]; decide)])
    have e3 : sz (fun q => iv (fI N0 182 q)) (mL M (A 206)) = sz (fun q => iv (fI M 182 q)) (mL M (A 206)) := sz_congr _ (fun x hx => by rw [(p x (by rw [(tt x hx).1]; decide)).2.1 _ (by simp)])
    have a4 := (l.2.2.2 t ht).2.2.2.1
    have e4 : iv (fI N0 215 m) = iv (fI M 215 m) + iv (fI M 125 t) := by rw [v215]; exact iv_add (by omega) (by omega)
    rw [v125, if_pos rfl, iv_0] at e1
    unfold nStem
    rw [hmL, e1, e2, e3, e4]
    omega
  have pl' : nPail m A N0 := by
    have e1 : sm (fI N0 127) (mL M (A 202)) = sm (fI M 127) (mL M (A 202)) + (fI N0 127 t - fI M 127 t) := sm_upd _ l.1 ht (fun x _ hx => by rw [v127, if_neg hx])
    have e3 : sm (fI N0 26) (mL M (A 204)) = sm (fI M 26) (mL M (A 204)) := sm_congr _ (fun x hx => (p x (by rw [(u.2.2.2 x hx).1]; decide)).2.1 _ (by simp))
    rw [v127, if_pos rfl] at e1
    unfold nPail at n2 ⊢
    rw [hmL, e1, e3, v212]
    generalize sm (fI M 127) (mL M (A 202)) = a1 at *
    generalize sm (fI M 26) (mL M (A 204)) = a2 at *
    generalize fI M 127 t = a3 at *
    generalize fI M 212 m = a4 at *
    clear e1 e3 v125 v127 v129 v215 v212 l' r' st' p hE hN0
    grind
  have hm : mL N0 (A 200) = mL M (A 200) := by rw [hmL]
  have hI0 : hI m A cut bound K H e N0 := ⟨hS_of s p, hG_of g' p hm (aI_all haI) (by simp) (by simp), hU_of u p (by rw [hmL]) (aI_all haI) (by simp), hY_of y s g' u p hm (by rw [hmL]) (fun _ => by rw [haI]), hC_of c s p (by rw [hmL]) hm (by simp), hO_of o p (by rw [hmL]) (by rw [hmL]) (by simp), l', r', hT_of tt p (by rw [hmL]) (by rw [hmL]) (by simp), hZ_of z p (by rw [hmL]), st', pl', nCoin_of n3 s g' u p hm (by rw [hmL]) (by simp), nSold_of n4 s g' p hm (by simp), nMisc_of n5 s p (by simp)⟩
  rw [hE]
  refine hI_mark hI0 ?_
  obtain ⟨-, -, -, -, g1, g2⟩ := g'.2.2 g hg
  have e1 : iv (fI M 103 g + 1) = iv (fI M 103 g) + 1 := by rw [iv_add (by rw [iv_1]; omega) (by rw [iv_1]; omega), iv_1]
  rw [iv_vMin, e1, iv_100]
  split <;> omega
theorem bcv_in {c : Int32} (hc : 0 ≤ iv c ∧ iv c ≤ 2) : (0 ≤ c ∧ c < 3) ∧ c.toNatClampNeg < 3 := by
  refine ⟨⟨iv_le.mpr (by rw [iv_0]; exact hc.1), iv_lt.mpr (by rw [iv_3]; omega)⟩, ?_⟩
  have := iv_cl hc.1
  omega
theorem ePut_in {c : Int32} (hc : 0 ≤ iv c ∧ iv c ≤ 2) (N : kx_M) (q : Nat) (v : Int32) : ePut N q c v = sA N q c.toNatClampNeg v := if_pos (bcv_in hc).1
theorem bcv_at {c : Int32} (hc : 0 ≤ iv c ∧ iv c ≤ 2) (N : kx_M) (q : Nat) : bcv N q c = aI N q c.toNatClampNeg := if_pos (bcv_in hc).1
theorem hI_bring (h : hI m A cut bound K H 0 M) {t g q : Nat} {told mn : Int32} (ht : t ∈ mL M (A 202)) (hg : g ∈ mL M (A 200)) (hq : fR M 100 g = some q) (h0 : fI M 129 t = 0) (h500 : iv (bcv M q (fI M 123 t)) + iv (fI M 125 t) ≤ 500) : hI m A cut bound K H 0 (eBring M t q (A 203) told mn) ∧ fI (eBring M t q (A 203) told mn) 129 t = 1 := by
  obtain ⟨s, g', u, y, c, o, l, r, tt, z, n1, n2, n3, n4, n5⟩ := h
  obtain ⟨b1, b2, b3, b4, b5, b6, b7⟩ := l.2.2.2 t ht
  generalize hN0 : eBring M t q (A 203) told mn = N0
  unfold eBring at hN0
  rw [ePut_in b3, bcv_at b3] at hN0
  rw [bcv_at b3] at h500
  have p : pAg (fun i => (((False ∨ i = 130) ∨ i = 131) ∨ i = 129) ∨ False) M N0 := by
    rw [← hN0]
    exact ((((pAg_sA M _ _ _).tr (pAg_sI _ _ _ _)).tr (pAg_sI _ _ _ _)).tr (pAg_sI _ _ _ _)).tr (pAg_sL _ _ _)
  have v129 : ∀ x, fI N0 129 x = if x = t then 1 else fI M 129 x := fun x => by
    rw [← hN0]; simp only [fI_sL, fI_set, fI_sA, Nat.reduceEqDiff, false_and, if_false, true_and]
  have vA : ∀ x j, aI N0 x j = if x = q ∧ j = (fI M 123 t).toNatClampNeg then aI M q (fI M 123 t).toNatClampNeg + fI M 125 t else aI M x j := fun x j => by
    rw [← hN0]
    rw [aI_sL, aI_sI, aI_sI, aI_sI]
    exact (Eq.refl _)
  have vL : ∀ i, 200 ≤ i → i ≤ 207 → i ≠ 203 → mL N0 (A i) = mL M (A i) := fun i i1 i2 i3 => by
    rw [← hN0, mL_sL_ne _ _ _ _ (fun w => i3 (s.2.2.2.2.2 i 203 i1 i2 (by decide) (by decide) w)), mL_sI, mL_sI, mL_sI, mL_sA]
  have vR : mL N0 (A 203) = mL M (A 203) ++ [t] := by rw [← hN0, mL_sL_eq]
  have l0 := vL 200 (by decide) (by decide) (by decide)
  have l1 := vL 201 (by decide) (by decide) (by decide)
  have l2 := vL 202 (by decide) (by decide) (by decide)
  have l4 := vL 204 (by decide) (by decide) (by decide)
  have l5 := vL 205 (by decide) (by decide) (by decide)
  have l6 := vL 206 (by decide) (by decide) (by decide)
  have l7 := vL 207 (by decide) (by decide) (by decide)
  have hau : ∀ x ∈ mL M (A 204), ∀ q2, fR M 22 x = some q2 → ∀ j, aI N0 q2 j = aI M q2 j := fun x hx q2 hq2 j => by
    rw [vA, if_neg (fun w => byc_ne_gu y hg hx hq hq2 w.1.symm)]
  refine ⟨⟨hS_of s p, ?_, hU_of u p l4 hau (by simp), hY_of y s g' u p l0 l4 (fun j => by rw [vA, if_neg (fun w => byc_ne_g8 y hg hq w.1.symm)]), hC_of c s p l1 l0 (by simp), hO_of o p l5 l4 (by simp), ?_, ?_, hT_of tt p l6 l4 (by simp), hZ_of z p l7, nStem_of n1 s l u tt p l2 l4 l6 hau (by simp), nPail_of n2 s l u p l2 l4 (by simp), nCoin_of n3 s g' u p l0 l4 (by simp), nSold_of n4 s g' p l0 (by simp), nMisc_of n5 s p (by simp)⟩, by rw [v129, if_pos rfl]⟩
  · obtain ⟨a1, a2, a3⟩ := g'
    refine ⟨by rw [l0]; exact a1, by rw [l0]; exact a2, fun x hx => ?_⟩
    rw [l0] at hx
    obtain ⟨c1, ⟨q2, c2, c3, c4⟩, c5⟩ := a3 x hx
    have ee := p x (by omega)
    rw [ee.1, ee.2.1 102 (by simp), ee.2.1 103 (by simp)]
    refine ⟨c1, ⟨q2, by rw [ee.2.2, c2], by rw [(p q2 (by omega)).1, c3], fun j hj => ?_⟩, c5⟩
    rw [vA]
    split
    · rename_i w
      have hqq : q2 = q := w.1
      subst hqq
      have d := c4 _ (bcv_in b3).2
      have hst := b4
      have ea : iv (aI M q2 (fI M 123 t).toNatClampNeg + fI M 125 t) = iv (aI M q2 (fI M 123 t).toNatClampNeg) + iv (fI M 125 t) := iv_add (by omega) (by omega)
      rw [ea]
      omega
    · exact c4 j hj
  · refine ⟨by rw [l2]; exact l.1, by rw [l2]; exact l.2.1, fun i x hx => ?_, fun x hx => ?_⟩
    · rw [l2] at hx
      rw [(p x (by rw [(l.2.2.2 x (List.mem_of_getElem? hx)).1]; decide)).2.1 120 (by simp)]
      exact l.2.2.1 i x hx
    · rw [l2] at hx
      obtain ⟨a1, a2, a3, a4, a5, a6, a7⟩ := l.2.2.2 x hx
      have ee := p x (by omega)
      refine ⟨by rw [ee.1, a1], gLk_of p l0 (by omega) (by simp) a2, by rw [ee.2.1 123 (by simp)]; exact a3, by rw [ee.2.1 125 (by simp)]; exact a4, by rw [ee.2.1 127 (by simp), ee.2.1 125 (by simp)]; exact a5, by rw [ee.2.1 126 (by simp)]; exact a6, ?_⟩
      rw [v129, ee.2.1 125 (by simp)]
      split
      · rename_i w
        rw [w, h0] at a7
        rcases a7 with a7 | a7
        · exact Or.inl ⟨Or.inr rfl, by rw [w]; exact a7.2⟩
        · exact absurd a7.1 (by decide)
      · exact a7
  · obtain ⟨a1, a2, a3⟩ := r
    have hnt : t ∉ mL M (A 203) := fun w => by
      have := (a2 t w).2
      rw [h0] at this
      exact absurd this (by decide)
    refine ⟨?_, fun x hx => ?_, ?_⟩
    · rw [vR, List.nodup_append]
      exact ⟨a1, by simp, fun x hx y' hy' => by
        rw [List.mem_singleton] at hy'
        rw [hy']
        exact fun w => hnt (by rw [← w]; exact hx)⟩
    · rw [vR] at hx
      rw [l2, v129]
      rcases List.mem_append.mp hx with hx | hx
      · obtain ⟨d1, d2⟩ := a2 x hx
        refine ⟨d1, ?_⟩
        split
        · rfl
        · exact d2
      · rw [List.mem_singleton] at hx
        rw [hx, if_pos rfl]
        exact ⟨ht, rfl⟩
    · rw [vR, l2, List.length_append]
      have := filt_up (p := fun x => decide (fI M 129 x = 1)) (q := fun x => decide (fI N0 129 x = 1)) (mL M (A 202)) l.1 ht (by rw [h0]; decide) (by rw [v129, if_pos rfl]; decide) (fun x _ hx => by rw [v129, if_neg hx])
      rw [this, ← a3]
      rfl
/-- one bouquet -/
theorem hI_bind1 (h : hI m A cut bound K H e M) {b s : Nat} (hb : b ∈ mL M (A 204)) (hs : fR M 22 b = some s) (hz : ¬ aI M s 0 < vZero M s) : ∃ used : Int, 6 ≤ used ∧ used ≤ 9 ∧ hI m A cut (bound + used) K H e (eBindOne M s) ∧ stk (eBindOne M s) b = stk M b - used := by
  have hbn := stem_bnd h
  have hstk : stk M b ≤ sz (stk M) (mL M (A 204)) := by
    refine sz_ge _ (fun x hx => ?_) hb
    obtain ⟨-, ⟨q, b2, -, b4⟩, -⟩ := h.2.2.1.2.2.2 x hx
    have hq : rf M 22 x = q := by unfold rf; rw [b2]; rfl
    unfold stk
    rw [hq]
    have := b4 0 (by decide)
    have := b4 1 (by decide)
    have := b4 2 (by decide)
    omega
  obtain ⟨s', g', u, y, c, o, l, r, tt, z, n1, n2, n3, n4, n5⟩ := h
  obtain ⟨d1, ⟨q, d2, d3, d4⟩, d5⟩ := u.2.2.2 b hb
  rw [hs] at d2
  cases d2
  have hrs : rf M 22 b = s := by unfold rf; rw [hs]; rfl
  have k0 := d4 0 (by decide)
  have k1 := d4 1 (by decide)
  have k2 := d4 2 (by decide)
  have o1 : iv (vOne M s) = if iv (aI M s 1) < 2 then iv (aI M s 1) else 2 := by unfold vOne; rw [iv_vMin, iv_2]
  have o2 : iv (vTwo M s) = if iv (aI M s 2) < 1 then iv (aI M s 2) else 1 := by unfold vTwo; rw [iv_vMin, iv_1]
  have q1 : 0 ≤ iv (vOne M s) ∧ iv (vOne M s) ≤ 2 ∧ iv (vOne M s) ≤ iv (aI M s 1) := by split at o1 <;> omega
  have q2 : 0 ≤ iv (vTwo M s) ∧ iv (vTwo M s) ≤ 1 ∧ iv (vTwo M s) ≤ iv (aI M s 2) := by split at o2 <;> omega
  have q0 : iv (vZero M s) = 3 + 2 * (2 - iv (vOne M s)) + 2 * (1 - iv (vTwo M s)) := by
    have e1 : iv (2 - vOne M s) = 2 - iv (vOne M s) := by rw [iv_sub (by rw [iv_2]; omega) (by rw [iv_2]; omega), iv_2]
    have e2 : iv (1 - vTwo M s) = 1 - iv (vTwo M s) := by rw [iv_sub (by rw [iv_1]; omega) (by rw [iv_1]; omega), iv_1]
    have e3 : iv (2 * (2 - vOne M s)) = 2 * (2 - iv (vOne M s)) := by rw [iv_mul (by rw [iv_2, e1]; omega) (by rw [iv_2, e1]; omega), iv_2, e1]
    have e4 : iv (2 * (1 - vTwo M s)) = 2 * (1 - iv (vTwo M s)) := by rw [iv_mul (by rw [iv_2, e2]; omega) (by rw [iv_2, e2]; omega), iv_2, e2]
    have e5 : iv (3 + 2 * (2 - vOne M s)) = 3 + 2 * (2 - iv (vOne M s)) := by rw [iv_add (by rw [iv_3, e3]; omega) (by rw [iv_3, e3]; omega), iv_3, e3]
    unfold vZero
    rw [iv_add (by rw [e5, e4]; omega) (by rw [e5, e4]; omega), e5, e4]
  have hz' : iv (vZero M s) ≤ iv (aI M s 0) := by
    have := mt iv_lt.mpr hz
    omega
  have i0 := iv_hi (aI M s 0)
  have i1 := iv_hi (aI M s 1)
  have i2 := iv_hi (aI M s 2)
  have f0 : iv (aI M s 0 - vZero M s) = iv (aI M s 0) - iv (vZero M s) := iv_sub (by omega) (by omega)
  have f1 : iv (aI M s 1 - vOne M s) = iv (aI M s 1) - iv (vOne M s) := iv_sub (by omega) (by omega)
  have f2 : iv (aI M s 2 - vTwo M s) = iv (aI M s 2) - iv (vTwo M s) := iv_sub (by omega) (by omega)
  have vA : ∀ x j, aI (eBindOne M s) x j = if x = s ∧ j = 2 then aI M s 2 - vTwo M s else if x = s ∧ j = 1 then aI M s 1 - vOne M s else if x = s ∧ j = 0 then aI M s 0 - vZero M s else aI M x j := fun x j => by
    unfold eBindOne
    exact (Eq.refl _)
  have va0 : aI (eBindOne M s) s 0 = aI M s 0 - vZero M s := by rw [vA]; simp
  have va1 : aI (eBindOne M s) s 1 = aI M s 1 - vOne M s := by rw [vA]; simp
  have va2 : aI (eBindOne M s) s 2 = aI M s 2 - vTwo M s := by rw [vA]; simp
  have vAo : ∀ x j, x ≠ s → aI (eBindOne M s) x j = aI M x j := fun x j hx => by
    rw [vA, if_neg (fun w => hx w.1), if_neg (fun w => hx w.1), if_neg (fun w => hx w.1)]
  have p : pAg (fun _ => (False ∨ False) ∨ False) M (eBindOne M s) := by
    unfold eBindOne
    exact ((pAg_sA M _ _ _).tr (pAg_sA _ _ _ _)).tr (pAg_sA _ _ _ _)
  have hmL := mL_eBindOne M s
  have hstk' : stk (eBindOne M s) b = stk M b - (iv (vZero M s) + iv (vOne M s) + iv (vTwo M s)) := by
    unfold stk
    rw [rf_of p (by omega), hrs, va0, va1, va2, f0, f1, f2]
    omega
  have hag : ∀ x ∈ mL M (A 200), ∀ q2, fR M 100 x = some q2 → ∀ j, aI (eBindOne M s) q2 j = aI M q2 j := fun x hx q2 hq2 j => vAo _ _ (byc_ne_gu y hx hb hq2 hs)
  have hm : ∀ i, mL (eBindOne M s) i = mL M i := fun i => by rw [hmL]
  refine ⟨iv (vZero M s) + iv (vOne M s) + iv (vTwo M s), by omega, by omega, ⟨hS_of s' p, hG_of g' p (hm _) hag (by simp) (by simp), ?_, hY_of y s' g' u p (hm _) (hm _) (fun j => vAo _ _ (fun w => byc_ne_u8 y hb hs w.symm)), hC_of c s' p (hm _) (hm _) (by simp), hO_of o p (hm _) (hm _) (by simp), hL_of l p (hm _) (hm _) (by simp) (by simp), hR_of r l p (hm _) (hm _) (by simp), hT_of tt p (hm _) (hm _) (by simp), hZ_of z p (hm _), ?_, nPail_of n2 s' l u p (hm _) (hm _) (by simp), nCoin_of n3 s' g' u p (hm _) (hm _) (by simp), nSold_of n4 s' g' p (hm _) (by simp), nMisc_of n5 s' p (by simp)⟩, hstk'⟩
  · obtain ⟨a1, a2, a0, a3⟩ := u
    refine ⟨by rw [hm]; exact a1, by rw [hm]; exact a2, fun i x hx => ?_, fun x hx => ?_⟩
    · rw [hm] at hx
      rw [(p x (by rw [(a3 x (List.mem_of_getElem? hx)).1]; decide)).2.1 20 (by simp)]
      exact a0 i x hx
    · rw [hm] at hx
      obtain ⟨c1, ⟨q', c2, c3, c4⟩, c5⟩ := a3 x hx
      have ee := p x (by omega)
      rw [ee.1, ee.2.1 21 (by simp), ee.2.1 24 (by simp), ee.2.1 25 (by simp), ee.2.1 23 (by simp), ee.2.1 26 (by simp)]
      refine ⟨c1, ⟨q', by rw [ee.2.2, c2], by rw [(p q' (by omega)).1, c3], fun j hj => ?_⟩, c5⟩
      by_cases hqs : q' = s
      · subst hqs
        rcases j with _ | _ | _ | j
        · rw [va0, f0]; omega
        · rw [va1, f1]; omega
        · rw [va2, f2]; omega
        · omega
      · rw [vAo _ _ hqs]
        exact c4 j hj
  · obtain ⟨a1, a2, a3, a4⟩ := n1
    have e1 : sz (fun x => iv (fI (eBindOne M s) 125 x)) (mL M (A 202)) = sz (fun x => iv (fI M 125 x)) (mL M (A 202)) := by rw [fI_eBindOne]
    have e2 : sz (stk (eBindOne M s)) (mL M (A 204)) = sz (stk M) (mL M (A 204)) + (stk (eBindOne M s) b - stk M b) := sz_upd _ u.1 hb (fun x hx hxb => by
      obtain ⟨c1, ⟨q', c2, c3, c4⟩, c5⟩ := u.2.2.2 x hx
      have hq' : rf M 22 x = q' := by unfold rf; rw [c2]; rfl
      have hne : q' ≠ s := fun w => hxb (byc_inj_u y hx hb (by rw [c2, w]) hs)
      unfold stk
      rw [rf_of p (by omega), hq', vAo _ _ hne, vAo _ _ hne, vAo _ _ hne])
    unfold nStem
    rw [hm, hm, hm, e1, e2, hstk', fI_eBindOne]
    omega
theorem hI_bindN {b s : Nat} : ∀ (n : Nat) (M : kx_M) (x : Int32) (bound : Int), hI m A cut bound K H e M → b ∈ mL M (A 204) → fR M 22 b = some s → ∃ (k : Nat) (used : Int), k ≤ n ∧ (eBindN s n (M, x)).2 = x + nI k ∧ 6 * (k : Int) ≤ used ∧ used ≤ 9 * (k : Int) ∧ hI m A cut (bound + used) K H e (eBindN s n (M, x)).1 ∧ stk (eBindN s n (M, x)).1 b = stk M b - used ∧ pAg (fun _ => False) M (eBindN s n (M, x)).1 ∧ mL (eBindN s n (M, x)).1 = mL M := by
  intro n
  induction n with
  | zero =>
    intro M x bound h hb hs
    refine ⟨0, 0, Nat.le_refl _, ?_, by omega, by omega, by rw [Int.add_zero]; exact h, by show stk M b = _; omega, pAg.rfl, rfl⟩
    show x = x + 0
    rw [Int32.add_zero]
  | succ n ih =>
    intro M x bound h hb hs
    by_cases hz : aI M s 0 < vZero M s
    · have e0 : eBindN s (n + 1) (M, x) = (M, x) := by
        unfold eBindN
        rw [if_pos hz]
      rw [e0]
      refine ⟨0, 0, Nat.zero_le _, ?_, by omega, by omega, by rw [Int.add_zero]; exact h, by show stk M b = _; omega, pAg.rfl, rfl⟩
      show x = x + 0
      rw [Int32.add_zero]
    · have e0 : eBindN s (n + 1) (M, x) = eBindN s n (eBindOne M s, x + 1) := by
        conv => lhs; unfold eBindN
        rw [if_neg hz]
      obtain ⟨u1, w1, w2, w3, w4⟩ := hI_bind1 h hb hs hz
      have hmL := mL_eBindOne M s
      have p : pAg (fun _ => False) M (eBindOne M s) := by
        intro x' hx'
        exact ⟨by rw [kd_eBindOne], fun i _ => by rw [fI_eBindOne], fun i => by rw [fR_eBindOne]⟩
      obtain ⟨k, u2, j1, j2, j3, j4, j5, j6, j7, j8⟩ := ih (eBindOne M s) (x + 1) _ w3 (by rw [hmL]; exact hb) (by rw [fR_eBindOne]; exact hs)
      rw [e0]
      refine ⟨k + 1, u1 + u2, by omega, ?_, by omega, by omega, by rw [← Int.add_assoc]; exact j5, by rw [j6, w4]; omega, (p.tr j7).mono (fun i hi => hi.elim id id), by rw [j8, hmL]⟩
      rw [j2, Int32.add_assoc, Int32.add_comm 1 (nI k), nI_1]
theorem hI_bind (h : hI m A cut bound K H e M) {b : Nat} (hb : b ∈ mL M (A 204)) (n : Nat) : ∃ (k : Nat) (used : Int), k ≤ n ∧ (eBindN (rf M 22 b) n (M, 0)).2 = nI k ∧ 6 * (k : Int) ≤ used ∧ used ≤ 9 * (k : Int) ∧ hI m A cut (bound + used) K H e (eBind M b n) ∧ stk (eBind M b n) b = stk M b - used := by
  obtain ⟨d1, ⟨q, d2, d3, d4⟩, d5⟩ := h.2.2.1.2.2.2 b hb
  have hrs : rf M 22 b = q := by unfold rf; rw [d2]; rfl
  obtain ⟨k, u, j1, j2, j3, j4, j5, j6, j7, j8⟩ := hI_bindN n M 0 bound h hb d2
  rw [Int32.zero_add] at j2
  unfold eBind
  rw [hrs]
  refine ⟨k, u, j1, j2, j3, j4, hI_set j5 (by decide), ?_⟩
  rw [← j6]
  unfold stk rf
  rw [fR_sI, aI_sI]
end OQ
