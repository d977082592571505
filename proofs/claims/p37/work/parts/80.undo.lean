section UD
variable {m : Nat} {A : Nat → Nat} {cut bound : Int} {K : Int32} {H : Int} {M : kx_M}
/-- sold ahead of the clock -/
theorem h_presell (E : kx_E) {t g b : Nat} {i j st pr : Int32} (h : hI m A cut bound K H 0 M) (hi0 : 0 ≤ i) (hi1 : i < Int32.ofNat (mL M (A 202)).length) (hi : (mL M (A 202))[i.toNatClampNeg]? = some t) (hj0 : 0 ≤ j) (hj1 : j < Int32.ofNat (mL M (A 204)).length) (hj : (mL M (A 204))[j.toNatClampNeg]? = some b) (hg : fR M 121 t = some g) (hgg : g ∈ mL M (A 200)) (h1 : 1 ≤ iv st) (hp : 1 ≤ iv pr ∧ iv pr ≤ 99) (h0 : fI M 129 t = 0) (h2 : iv st ≤ iv (fI M 125 t)) (h3 : iv (pr * st) = iv pr * iv st) (h4 : iv (pr * st) ≤ iv (fI M 23 b)) : c2t_X9_presell E [.ref m, .int i, .int j, .int st, .int pr] M 4 3011 (fun v N => v = some (.int (vShare (pr * st))) ∧ ∃ a k, hI m A cut bound K H 0 N ∧ Bs m t g (A 206) (A 207) M [(a, b, none, st, pr, k)] N ∧ 0 ≤ iv k ∧ iv k ≤ 3 ∧ (fI N 129 t = 0 ∨ fI N 129 t = 2)) := by
  have s := h.1
  have ht : t ∈ mL M (A 202) := List.mem_of_getElem? hi
  have hb : b ∈ mL M (A 204) := List.mem_of_getElem? hj
  obtain ⟨t1, t2, t3, t4, t5, t6, t7⟩ := h.2.2.2.2.2.2.1.2.2.2 t ht
  obtain ⟨u1, u2, u3, u4, u5, u6, u7, u8⟩ := h.2.2.1.2.2.2 b hb
  have g1 := (h.2.1.2.2 g hgg).1
  have hne : A 206 ≠ A 207 := s.ne (by decide) (by decide) (by decide)
  have hr := rail_len h
  have hz := h.2.2.2.2.2.2.2.2.2.1.1
  refine (c2_X9_presell E (M := M) (m := m) (ll := A 202) (t := t) (bl := A 204) (b := b) (g := g) (tl := A 206) (sl := A 207) (i := i) (j := j) (st := st) (pr := pr) s.1 (s.2.1 202 (by decide) (by decide)) (s.2.2.1 202 (by decide) (by decide)) hi0 hi1 hi t1 (s.2.1 204 (by decide) (by decide)) (s.2.2.1 204 (by decide) (by decide)) hj0 hj1 hj u1 hg g1 (iv_le.mpr (by rw [iv_1]; exact h1)) ⟨iv_le.mpr (by rw [iv_1]; exact hp.1), iv_le.mpr (by rw [iv_99]; exact hp.2)⟩ h0 (iv_le.mpr h2) (iv_le.mpr h4) (s.2.1 206 (by decide) (by decide)) (s.2.2.1 206 (by decide) (by decide)) (by omega) (s.2.1 207 (by decide) (by decide)) (s.2.2.1 207 (by decide) (by decide)) (by omega) hne).mono ?_
  rintro v N ⟨rfl, a, q, ha, hq, haq, rfl⟩
  have e0 : eR M t = 0 := by unfold eR; rw [h0]; rfl
  have htr : t ∉ mL M (A 203) := fun w => by
    have := (h.2.2.2.2.2.2.2.1.2.1 t w).2
    rw [h0] at this
    exact absurd this (by decide)
  have hs := hI_sell (oo := none) (st := st) (pr := pr) (b := b) (g := g) (a := a) (q := q) (M := M) (t := t) (by rw [e0]; exact h) ht hb hg hgg (fun x hx => by cases hx) ha hq haq h1 h2 (by rw [h3]; exact Int.mul_nonneg (by omega) (by omega)) h4 htr
  have hvb : iv (vBuckets st) = (iv st + 19) / 20 := iv_vBuckets (by omega)
  have hk0 : iv (vMin (vBuckets st) (fI M 127 t)) = if iv (fI M 127 t) < (iv st + 19) / 20 then iv (fI M 127 t) else (iv st + 19) / 20 := by rw [iv_vMin, hvb]
  have hB := Bs_sell (b := b) (a := a) (q := q) (oo := none) (st := st) (pr := pr) (Bs_nil (m := m) (t := t) (g := g) (tl := A 206) (sl := A 207) (M0 := M) hz) s.1 t1 u1 g1 (fun x hx => by cases hx) ha hq haq (s.2.2.1 206 (by decide) (by decide)) (s.2.2.1 207 (by decide) (by decide)) hne (by show 0 < 20; omega) h1 u7 (by omega) (by split at hk0 <;> omega) (by split at hk0 <;> omega)
  have v129 : fI (eSell M m t b g none st pr (A 206) (A 207) a q) 129 t = if t = t ∧ fI M 125 t - st < 1 then 2 else fI M 129 t := sell_129 ha hq t1 (by omega)
  have v2 : fI (eSell M m t b g none st pr (A 206) (A 207) a q) 129 t = 0 ∨ fI (eSell M m t b g none st pr (A 206) (A 207) a q) 129 t = 2 := by
    rw [v129]
    split
    · exact Or.inr rfl
    · exact Or.inl h0
  have e1 : eR (eSell M m t b g none st pr (A 206) (A 207) a q) t = 0 := by
    unfold eR
    rcases v2 with v2 | v2
    · rw [v2]; rfl
    · rw [v2]; rfl
  rw [e1] at hs
  exact ⟨rfl, a, _, hs, hB, by split at hk0 <;> omega, by split at hk0 <;> omega, v2⟩
/-- the latest entry undone -/
theorem h_undo (E : kx_E) {M0 N : kx_M} {t g : Nat} {e : kx_E1} {Es : List kx_E1} (s : hS m A M0) (t1 : kd M0 t = 7) (hg : fR M0 121 t = some g) (g1 : kd M0 g = 6) (hB : Bs m t g (A 206) (A 207) M0 (e :: Es) N) (hr : (mL M0 (A 206)).length + Es.length < 1000) (h3 : fI N 129 t ≠ 3) : c2t_X9_undo E [.ref m] N 0 0 (fun v N' => v = some (.int (eT e)) ∧ Bs m t g (A 206) (A 207) M0 Es N' ∧ fI N' 129 t = (if fI N 129 t = 2 then 0 else fI N 129 t) ∧ 1 ≤ iv (eT e)) := by
  have hne : A 206 ≠ A 207 := s.ne (by decide) (by decide) (by decide)
  have k6 := s.2.2.1 206 (by decide) (by decide)
  have k7 := s.2.2.1 207 (by decide) (by decide)
  obtain ⟨b1, b2, b3, b4, b5, b6⟩ := Bs_undo hB s.1 t1 g1 k6 k7 hne
  obtain ⟨p1, p2, p3, p4, p5, p6, p7, p8, p9, p10⟩ := b5
  obtain ⟨k1, k2, ⟨Qs, k3, k3'⟩, ⟨pre, k4, k4l, k4m⟩, -⟩ := hB
  have lv := fun x (hx : kd M0 x ≠ 0) => k1 x hx
  have nm := lv m (by rw [s.1]; decide)
  have e210 : fI N 210 m = fI M0 210 m := by rw [nm.2.1 210 (by unfold rn; omega) (by decide), dL_210 _ _ _ _ _ (by decide), Int32.add_zero]
  refine (c2_X9_undo E (M := N) (m := m) (s := eS e) (t := t) (b := eB e) (g := g) (tl := A 206) (sl := A 207) (oo := eO e) (by rw [nm.1, s.1]) p1 p2 (by rw [(lv t (by omega)).1, t1]) p3 (by rw [(lv _ (by omega)).1, p9]) (by rw [(lv t (by omega)).2.2.2.1, hg]) (by rw [(lv g (by omega)).1, g1]) p4 (fun o ho => by rw [(lv o (by rw [p10 o ho]; decide)).1, p10 o ho]) (by rw [nm.2.2.2.1, s.2.1 206 (by decide) (by decide)]) (by rw [(lv _ (by omega)).1, k6]) (by rw [k3, List.length_append, k3', List.length_cons]; omega) (by rw [nm.2.2.2.1, s.2.1 207 (by decide) (by decide)]) (by rw [(lv _ (by omega)).1, k7]) (by rw [k4, List.length_append, List.length_reverse, List.length_map]; omega) b3 hne (by rw [p7, e210]) h3 (by rw [p8]; exact b4)).mono ?_
  rintro v N' ⟨rfl, rfl⟩
  rw [p5, p6, p8]
  exact ⟨rfl, b1, b2, b6⟩
/-- a hall with every entry undone is as it was -/
theorem hI_undone {M0 N : kx_M} {t g : Nat} (h : hI m A cut bound K H (eR M0 t) M0) (ht : t ∈ mL M0 (A 202)) (hst : 1 ≤ iv (fI M0 125 t)) (htr : t ∉ mL M0 (A 203)) (hB : Bs m t g (A 206) (A 207) M0 [] N) (h0 : fI N 129 t = 0) : hI m A cut bound K H 0 N ∧ pAg (fun i => rn i ∨ i = 129) M0 N ∧ (∀ i, 200 ≤ i → i ≤ 206 → mL N (A i) = mL M0 (A i)) ∧ ∀ x j, kd M0 x ≠ 0 → aI N x j = aI M0 x j := by
  obtain ⟨k1, k2, ⟨Qs, k3, k3'⟩, ⟨pre, k4, k4l, k4m⟩, -⟩ := hB
  have p : pAg (fun i => rn i ∨ i = 129) M0 N := fun x hx => by
    obtain ⟨a1, a2, a3, a4, a5⟩ := k1 x hx
    refine ⟨a1, fun i hi => ?_, a4⟩
    rw [a2 i (fun z => hi (Or.inl z)) (fun z => hi (Or.inr z))]
    show _ + (0 : Int32) = _
    rw [Int32.add_zero]
  have v129 : ∀ x, kd M0 x ≠ 0 → x ≠ t → fI N 129 x = fI M0 129 x := fun x hx w => (k1 x hx).2.2.1 w
  have hA : ∀ x j, kd M0 x ≠ 0 → aI N x j = aI M0 x j := fun x j hx => (k1 x hx).2.2.2.2 j
  obtain ⟨s, g', u, y, cc, o, l, r, tt, z, n1, n2, n3, n4, n5⟩ := h
  have hL : ∀ i, 200 ≤ i → i ≤ 206 → mL N (A i) = mL M0 (A i) := fun i i1 i2 => by
    by_cases hi : i = 206
    · subst hi
      rw [k3]
      have : Qs = [] := List.eq_nil_of_length_eq_zero (by rw [k3']; rfl)
      rw [this, List.append_nil]
    · exact k2 _ (s.2.2.1 i i1 (by omega)) (s.ne ⟨i1, by omega⟩ (by decide) hi) (s.ne ⟨i1, by omega⟩ (by decide) (by omega))
  have l0 := hL 200 (by decide) (by decide)
  have l1 := hL 201 (by decide) (by decide)
  have l2 := hL 202 (by decide) (by decide)
  have l3 := hL 203 (by decide) (by decide)
  have l4 := hL 204 (by decide) (by decide)
  have l5 := hL 205 (by decide) (by decide)
  have l6 := hL 206 (by decide) (by decide)
  have hag : ∀ x ∈ mL M0 (A 200), ∀ q, fR M0 100 x = some q → ∀ j, aI N q j = aI M0 q j := fun x hx q hq j => by
    obtain ⟨-, ⟨q', b2, b3, -⟩, -⟩ := g'.2.2 x hx
    rw [hq] at b2; cases b2
    exact hA q j (by omega)
  have hau : ∀ x ∈ mL M0 (A 204), ∀ q, fR M0 22 x = some q → ∀ j, aI N q j = aI M0 q j := fun x hx q hq j => by
    obtain ⟨-, ⟨q', b2, b3, -⟩, -⟩ := u.2.2.2 x hx
    rw [hq] at b2; cases b2
    exact hA q j (by omega)
  have nf : ∀ i, i ∈ [102, 103, 20, 21, 24, 25, 23, 26, 81, 82, 84, 85, 86, 210, 145, 120, 122, 123, 125, 126, 127, 181, 182, 183, 215, 212, 214, 101, 104, 216, 211, 213] → ¬ (rn i ∨ i = 129) := fun i hi => by
    simp only [List.mem_cons, List.not_mem_nil, or_false] at hi
    unfold rn; omega
  refine ⟨⟨hS_of s p, hG_of g' p l0 hag (nf _ (by decide)) (nf _ (by decide)), hU_of u p l4 hau ⟨nf _ (by decide), nf _ (by decide), nf _ (by decide), nf _ (by decide), nf _ (by decide), nf _ (by decide)⟩, hY_of y s g' u p l0 l4 (fun j => hA _ j (by rw [s.2.2.2.1]; decide)), hC_of cc s p l1 l0 ⟨nf _ (by decide), nf _ (by decide), nf _ (by decide), nf _ (by decide), nf _ (by decide), nf _ (by decide)⟩, hO_of o p l5 l4 (nf _ (by decide)), ⟨by rw [l2]; exact l.1, by rw [l2]; exact l.2.1, fun i x hx => ?_, fun x hx => ?_⟩, ⟨by rw [l3]; exact r.1, fun x hx => ?_, ?_⟩, hT_of tt p l6 l4 ⟨nf _ (by decide), nf _ (by decide), nf _ (by decide)⟩, ⟨?_, fun x hx => ?_⟩, nStem_of n1 s l u tt p l2 l4 l6 hau ⟨nf _ (by decide), nf _ (by decide), nf _ (by decide)⟩, nPail_of n2 s l u p l2 l4 ⟨nf _ (by decide), nf _ (by decide), nf _ (by decide)⟩, nCoin_of n3 s g' u p l0 l4 ⟨nf _ (by decide), nf _ (by decide), nf _ (by decide)⟩, nSold_of n4 s g' p l0 ⟨nf _ (by decide), nf _ (by decide)⟩, nMisc_of n5 s p ⟨nf _ (by decide), nf _ (by decide), nf _ (by decide)⟩⟩, p, hL, hA⟩
  · rw [l2] at hx
    rw [(p x (by rw [(l.2.2.2 x (List.mem_of_getElem? hx)).1]; decide)).2.1 120 (nf _ (by decide))]
    exact l.2.2.1 i x hx
  · rw [l2] at hx
    obtain ⟨a1, a2, a3, a4, a5, a6, a7⟩ := l.2.2.2 x hx
    have ee := p x (by omega)
    refine ⟨by rw [ee.1, a1], gLk_of p l0 (by omega) (nf _ (by decide)) a2, by rw [ee.2.1 123 (nf _ (by decide))]; exact a3, by rw [ee.2.1 125 (nf _ (by decide))]; exact a4, by rw [ee.2.1 127 (nf _ (by decide)), ee.2.1 125 (nf _ (by decide))]; exact a5, by rw [ee.2.1 126 (nf _ (by decide))]; exact a6, ?_⟩
    rw [ee.2.1 125 (nf _ (by decide))]
    by_cases hxt : x = t
    · rw [hxt, h0]
      exact Or.inl ⟨Or.inl rfl, hst⟩
    · rw [v129 x (by omega) hxt]
      exact a7
  · rw [l3] at hx
    obtain ⟨b1, b2⟩ := r.2.1 x hx
    rw [l2, v129 x (by rw [(l.2.2.2 x b1).1]; decide) (fun w => htr (by rw [← w]; exact hx))]
    exact ⟨b1, b2⟩
  · have r3 := r.2.2
    rw [l2, l3]
    by_cases h1 : fI M0 129 t = 1
    · have e1 : eR M0 t = 1 := if_pos h1
      rw [e1] at r3
      have := filt_up (p := fun x => decide (fI N 129 x = 1)) (q := fun x => decide (fI M0 129 x = 1)) (mL M0 (A 202)) l.1 ht (by rw [h0]; decide) (by rw [h1]; decide) (fun x hx hxt => by rw [v129 x (by rw [(l.2.2.2 x hx).1]; decide) hxt])
      omega
    · have e1 : eR M0 t = 0 := if_neg h1
      rw [e1] at r3
      rw [r3]
      refine congrArg List.length (List.filter_congr (fun x hx => ?_))
      by_cases hxt : x = t
      · rw [hxt, h0, decide_eq_false h1]; decide
      · rw [v129 x (by rw [(l.2.2.2 x hx).1]; decide) hxt]
  · rw [k4, List.length_append, List.length_reverse, List.length_map]
    omega
  · rw [k4] at hx
    rcases List.mem_append.mp hx with hx | hx
    · exact pSaleAt_of (z.2 x (k4m x hx)) p
    · exact absurd hx (by simp)
end UD
