section HSL
variable {m : Nat} {A : Nat → Nat} {cut bound : Int} {K : Int32} {H : Int} {M : kx_M}
/-- lots told to be in the row that aren't: t, as the clock sells it -/
def eR (M : kx_M) (t : Nat) : Nat := if fI M 129 t = 1 then 1 else 0
theorem hS.ne (h : hS m A M) {i j : Nat} (hi : 200 ≤ i ∧ i ≤ 207) (hj : 200 ≤ j ∧ j ≤ 207) (hij : i ≠ j) : A i ≠ A j := fun w => hij (h.2.2.2.2.2 i j hi.1 hi.2 hj.1 hj.2 w)
theorem hI_sell {t b g a q : Nat} {oo : Option Nat} {st pr : Int32} (h : hI m A cut bound K H (eR M t) M) (ht : t ∈ mL M (A 202)) (hb : b ∈ mL M (A 204)) (hg1 : fR M 121 t = some g) (hgg : g ∈ mL M (A 200)) (ho : ∀ o, oo = some o → kd M o = 8) (ha : kd M a = 0) (hq : kd M q = 0) (haq : a ≠ q) (h1 : 1 ≤ iv st) (h2 : iv st ≤ iv (fI M 125 t)) (h3 : 0 ≤ iv (pr * st)) (h4 : iv (pr * st) ≤ iv (fI M 23 b)) (hrow : t ∉ mL M (A 203)) : hI m A cut bound K H (eR (eSell M m t b g oo st pr (A 206) (A 207) a q) t) (eSell M m t b g oo st pr (A 206) (A 207) a q) := by
  have hbn := stem_bnd h
  obtain ⟨s, g', u, y, cc, o, l, r, tt, z, n1, n2, n3, n4, n5⟩ := h
  obtain ⟨t1, t2, t3, t4, t5, t6, t7⟩ := l.2.2.2 t ht
  obtain ⟨u1, u2, u3, u4, u5, u6, u7, u8⟩ := u.2.2.2 b hb
  obtain ⟨g1, -⟩ := g'.2.2 g hgg
  have hne67 : A 206 ≠ A 207 := s.ne (by decide) (by decide) (by decide)
  have k6 := s.2.2.1 206 (by decide) (by decide)
  have k7 := s.2.2.1 207 (by decide) (by decide)
  have p := sell_ag (M := M) (m := m) (t := t) (b := b) (g := g) (oo := oo) (st := st) (pr := pr) (tl := A 206) (sl := A 207) (a := a) (q := q) ha hq s.1 t1 u1 g1 ho
  have vo : ∀ x i, kd M x ≠ 0 → i ≠ 129 → fI (eSell M m t b g oo st pr (A 206) (A 207) a q) i x = fI (eBook M m t b g oo st (vMin (vBuckets st) (fI M 127 t)) (pr * st) (vShare (pr * st))) i x := fun x i hx hi => sell_old ha hq s.1 t1 u1 g1 ho hx i hi
  have v129 : ∀ x, kd M x ≠ 0 → fI (eSell M m t b g oo st pr (A 206) (A 207) a q) 129 x = if x = t ∧ fI M 125 t - st < 1 then 2 else fI M 129 x := fun x hx => sell_129 ha hq t1 hx
  have hA : ∀ x j, kd M x ≠ 0 → aI (eSell M m t b g oo st pr (A 206) (A 207) a q) x j = aI M x j := fun x j hx => sell_aI ha hq hx
  have vL : ∀ i, 200 ≤ i → i ≤ 207 → i ≠ 206 → i ≠ 207 → mL (eSell M m t b g oo st pr (A 206) (A 207) a q) (A i) = mL M (A i) := fun i i1 i2 i3 i4 => mL_eSell_o (kx_ne (s.2.2.1 i i1 i2) ha (by decide)) (kx_ne (s.2.2.1 i i1 i2) hq (by decide)) (s.ne ⟨i1, i2⟩ (by decide) i3) (s.ne ⟨i1, i2⟩ (by decide) i4)
  have vT := sell_tl (M := M) (m := m) (t := t) (b := b) (g := g) (oo := oo) (st := st) (pr := pr) (a := a) (q := q) ha hq k6 hne67
  have vS := sell_sl (M := M) (m := m) (t := t) (b := b) (g := g) (oo := oo) (st := st) (pr := pr) (a := a) (q := q) ha hq k7 hne67
  obtain ⟨ca, cb, cc1, -⟩ := sell_a (M := M) (m := m) (t := t) (b := b) (g := g) (oo := oo) (st := st) (pr := pr) (tl := A 206) (sl := A 207) ha hq haq
  obtain ⟨da, db, dc, dd, de⟩ := sell_q (M := M) (m := m) (t := t) (b := b) (g := g) (oo := oo) (st := st) (pr := pr) (tl := A 206) (sl := A 207) (a := a) ha hq t1 k7
  generalize eSell M m t b g oo st pr (A 206) (A 207) a q = N at *
  have hvb : iv (vBuckets st) = (iv st + 19) / 20 := iv_vBuckets (by omega)
  have hk : iv (vMin (vBuckets st) (fI M 127 t)) = if iv (fI M 127 t) < (iv st + 19) / 20 then iv (fI M 127 t) else (iv st + 19) / 20 := by rw [iv_vMin, hvb]
  generalize vMin (vBuckets st) (fI M 127 t) = k at *
  generalize vShare (pr * st) = sh at *
  generalize pr * st = pd at *
  have hk0 : 0 ≤ iv k ∧ iv k ≤ iv (fI M 127 t) ∧ iv k ≤ 3 ∧ 20 * (iv (fI M 127 t) - iv k) < iv (fI M 125 t) - iv st + 20 := by split at hk <;> omega
  have v23 : ∀ x, kd M x ≠ 0 → fI N 23 x = if x = b then fI M 23 b - (pd + 2 * k) else fI M 23 x := fun x hx => by rw [vo x 23 hx (by decide), bk_23]
  have v26 : ∀ x, kd M x ≠ 0 → fI N 26 x = if x = b then fI M 26 b + k else fI M 26 x := fun x hx => by rw [vo x 26 hx (by decide), bk_26]
  have v101 : ∀ x, kd M x ≠ 0 → fI N 101 x = if x = g then fI M 101 g + sh else fI M 101 x := fun x hx => by rw [vo x 101 hx (by decide), bk_101]
  have v104 : ∀ x, kd M x ≠ 0 → fI N 104 x = if x = g then fI M 104 g + st else fI M 104 x := fun x hx => by rw [vo x 104 hx (by decide), bk_104]
  have v125 : ∀ x, kd M x ≠ 0 → fI N 125 x = if x = t then fI M 125 t - st else fI M 125 x := fun x hx => by rw [vo x 125 hx (by decide), bk_125]
  have v127 : ∀ x, kd M x ≠ 0 → fI N 127 x = if x = t then fI M 127 t - k else fI M 127 x := fun x hx => by rw [vo x 127 hx (by decide), bk_127]
  have hm0 : kd M m ≠ 0 := by rw [s.1]; decide
  have v214 : fI N 214 m = fI M 214 m + (pd - sh + 2 * k) := by rw [vo m 214 hm0 (by decide), bk_214, if_pos rfl]
  have v216 : fI N 216 m = fI M 216 m + st := by rw [vo m 216 hm0 (by decide), bk_216, if_pos rfl]
  have l0 := vL 200 (by decide) (by decide) (by decide) (by decide)
  have l1 := vL 201 (by decide) (by decide) (by decide) (by decide)
  have l2 := vL 202 (by decide) (by decide) (by decide) (by decide)
  have l3 := vL 203 (by decide) (by decide) (by decide) (by decide)
  have l4 := vL 204 (by decide) (by decide) (by decide) (by decide)
  have l5 := vL 205 (by decide) (by decide) (by decide) (by decide)
  have hag : ∀ x ∈ mL M (A 200), ∀ q, fR M 100 x = some q → ∀ j, aI N q j = aI M q j := fun x hx q hq j => by
    obtain ⟨-, ⟨q', b2, b3, -⟩, -⟩ := g'.2.2 x hx
    rw [hq] at b2; cases b2
    exact hA q j (by omega)
  have hau : ∀ x ∈ mL M (A 204), ∀ q, fR M 22 x = some q → ∀ j, aI N q j = aI M q j := fun x hx q hq j => by
    obtain ⟨-, ⟨q', b2, b3, -⟩, -⟩ := u.2.2.2 x hx
    rw [hq] at b2; cases b2
    exact hA q j (by omega)
  have h2k : iv (2 * k) = 2 * iv k := by rw [iv_mul (by rw [iv_2]; omega) (by rw [iv_2]; omega), iv_2]
  have hpd : iv (pd + 2 * k) = iv pd + 2 * iv k := by rw [iv_add (by rw [h2k]; omega) (by rw [h2k]; omega), h2k]
  have hst : iv (fI M 125 t - st) = iv (fI M 125 t) - iv st := iv_sub (by omega) (by omega)
  have hbk : iv (fI M 127 t - k) = iv (fI M 127 t) - iv k := iv_sub (by omega) (by omega)
  have hlt1 : fI M 125 t - st < 1 ↔ iv (fI M 125 t) - iv st = 0 := by rw [iv_lt, hst, iv_1]; omega
  have hnf : ∀ i, i ∈ [102, 103, 20, 21, 24, 25, 81, 82, 84, 85, 86, 210, 145, 120, 122, 123, 126, 181, 182, 183, 215, 211, 213] → ¬ sF i := fun i hi => by
    simp only [List.mem_cons, List.not_mem_nil, or_false] at hi
    unfold sF
    omega
  refine ⟨hS_of s p, hG_of g' p l0 hag (hnf _ (by decide)) (hnf _ (by decide)), ?_, hY_of y s g' u p l0 l4 (fun j => hA _ j (by rw [s.2.2.2.1]; decide)), hC_of cc s p l1 l0 ⟨hnf _ (by decide), hnf _ (by decide), hnf _ (by decide), hnf _ (by decide), hnf _ (by decide), hnf _ (by decide)⟩, hO_of o p l5 l4 (hnf _ (by decide)), ?_, ?_, ?_, ?_, ?_, ?_, ?_, ?_, nMisc_of n5 s p ⟨hnf _ (by decide), hnf _ (by decide), hnf _ (by decide)⟩⟩
  · refine ⟨by rw [l4]; exact u.1, by rw [l4]; exact u.2.1, fun i x hx => ?_, fun x hx => ?_⟩
    · rw [l4] at hx
      rw [(p x (by rw [(u.2.2.2 x (List.mem_of_getElem? hx)).1]; decide)).2.1 20 (hnf _ (by decide))]
      exact u.2.2.1 i x hx
    · rw [l4] at hx
      obtain ⟨c1, ⟨q', c2, c3, c4⟩, c5, c6, c7, c8, c9, c10⟩ := u.2.2.2 x hx
      have ee := p x (by omega)
      refine ⟨by rw [ee.1, c1], ⟨q', by rw [ee.2.2, c2], by rw [(p q' (by omega)).1, c3], fun j hj => by rw [hA q' j (by omega)]; exact c4 j hj⟩, by rw [ee.2.1 21 (hnf _ (by decide))]; exact c5, by rw [ee.2.1 24 (hnf _ (by decide))]; exact c6, by rw [ee.2.1 25 (hnf _ (by decide))]; exact c7, ?_⟩
      rw [v23 x (by omega), v26 x (by omega)]
      by_cases hxb : x = b
      · rw [if_pos hxb, if_pos hxb]
        have f1 : iv (fI M 23 b - (pd + 2 * k)) = iv (fI M 23 b) - (iv pd + 2 * iv k) := by rw [iv_sub (by rw [hpd]; omega) (by rw [hpd]; omega), hpd]
        have f2 : iv (fI M 26 b + k) = iv (fI M 26 b) + iv k := iv_add (by omega) (by omega)
        rw [f1, f2]
        omega
      · rw [if_neg hxb, if_neg hxb]
        exact ⟨c8, c9, c10⟩
  · refine ⟨by rw [l2]; exact l.1, by rw [l2]; exact l.2.1, fun i x hx => ?_, fun x hx => ?_⟩
    · rw [l2] at hx
      rw [(p x (by rw [(l.2.2.2 x (List.mem_of_getElem? hx)).1]; decide)).2.1 120 (hnf _ (by decide))]
      exact l.2.2.1 i x hx
    · rw [l2] at hx
      obtain ⟨a1, a2, a3, a4, a5, a6, a7⟩ := l.2.2.2 x hx
      have ee := p x (by omega)
      refine ⟨by rw [ee.1, a1], gLk_of p l0 (by omega) (hnf _ (by decide)) a2, by rw [ee.2.1 123 (hnf _ (by decide))]; exact a3, ?_, ?_, by rw [ee.2.1 126 (hnf _ (by decide))]; exact a6, ?_⟩
      · rw [v125 x (by omega)]
        split
        · rw [hst]; omega
        · exact a4
      · rw [v125 x (by omega), v127 x (by omega)]
        split
        · rw [hst, hbk]; omega
        · exact a5
      · rw [v125 x (by omega), v129 x (by omega)]
        by_cases hxt : x = t
        · subst hxt
          by_cases hlt : fI M 125 x - st < 1
          · rw [if_pos ⟨rfl, hlt⟩, if_pos rfl, hst]
            exact Or.inr ⟨Or.inl rfl, hlt1.mp hlt⟩
          · rw [if_neg (fun w => hlt w.2), if_pos rfl, hst]
            have hlt' : ¬ iv (fI M 125 x) - iv st = 0 := fun w => hlt (hlt1.mpr w)
            rcases a7 with a7 | a7
            · exact Or.inl ⟨a7.1, by omega⟩
            · exact absurd a7.2 (by omega)
        · rw [if_neg (fun w => hxt w.1), if_neg hxt]
          exact a7
  · obtain ⟨a1, a2, a3⟩ := r
    refine ⟨by rw [l3]; exact a1, fun x hx => ?_, ?_⟩
    · rw [l3] at hx
      obtain ⟨b1, b2⟩ := a2 x hx
      rw [l2, v129 x (by rw [(l.2.2.2 x b1).1]; decide), if_neg (fun w => hrow (by rw [← w.1]; exact hx))]
      exact ⟨b1, b2⟩
    · rw [l2, l3]
      by_cases hlt : fI M 125 t - st < 1
      · have e1 : eR N t = 0 := by
          have e0 : fI N 129 t = 2 := by rw [v129 t (by omega)]; exact if_pos ⟨rfl, hlt⟩
          unfold eR
          rw [e0]
          exact if_neg (by decide)
        rw [e1]
        by_cases h129 : fI M 129 t = 1
        · have e2 : eR M t = 1 := if_pos h129
          rw [e2] at a3
          have := filt_up (p := fun x => decide (fI N 129 x = 1)) (q := fun x => decide (fI M 129 x = 1)) (mL M (A 202)) l.1 ht (by rw [v129 t (by omega), if_pos ⟨rfl, hlt⟩]; decide) (by rw [h129]; decide) (fun x hx hxt => by rw [v129 x (by rw [(l.2.2.2 x hx).1]; decide), if_neg (fun w => hxt w.1)])
          omega
        · have e2 : eR M t = 0 := if_neg h129
          rw [e2] at a3
          rw [a3]
          refine congrArg List.length (List.filter_congr (fun x hx => ?_))
          rw [v129 x (by rw [(l.2.2.2 x hx).1]; decide)]
          by_cases hxt : x = t
          · rw [if_pos ⟨hxt, hlt⟩, hxt, decide_eq_false h129]; decide
          · rw [if_neg (fun w => hxt w.1)]
      · have e0 : ∀ x ∈ mL M (A 202), fI N 129 x = fI M 129 x := fun x hx => by rw [v129 x (by rw [(l.2.2.2 x hx).1]; decide), if_neg (fun w => hlt w.2)]
        have e1 : eR N t = eR M t := by unfold eR; rw [e0 t ht]
        rw [e1, a3]
        exact congrArg List.length (List.filter_congr (fun x hx => by rw [e0 x hx]))
  · intro x hx
    rw [vT] at hx
    rcases List.mem_append.mp hx with hx | hx
    · obtain ⟨b1, ⟨bb, b2, b3⟩, b5⟩ := tt x hx
      have ee := p x (by omega)
      rw [ee.1, ee.2.1 181 (hnf _ (by decide)), ee.2.1 182 (hnf _ (by decide)), ee.2.1 183 (hnf _ (by decide)), ee.2.2, l4]
      exact ⟨b1, ⟨bb, b2, b3⟩, b5⟩
    · rw [List.mem_singleton] at hx
      rw [hx, da, db, dc, dd, de, l4]
      exact ⟨rfl, ⟨b, hb, rfl⟩, t3, h1, t6.1⟩
  · refine ⟨?_, fun x hx => ?_⟩
    · rw [vS, List.length_append]
      have z1 := z.1
      split
      · show _ + 1 ≤ 20; omega
      · rename_i hz
        have := List.length_eraseIdx_of_lt (l := mL M (A 207)) (i := 0) (by omega)
        rw [this]
        show _ + 1 ≤ 20
        omega
    · rw [vS] at hx
      rcases List.mem_append.mp hx with hx | hx
      · have hxm : x ∈ mL M (A 207) := by
          split at hx
          · exact hx
          · exact List.mem_of_mem_eraseIdx hx
        exact pSaleAt_of (z.2 x hxm) p
      · rw [List.mem_singleton] at hx
        rw [hx]
        exact ⟨ca, ⟨t, cb, by rw [(p t (by omega)).1, t1]⟩, b, cc1, by rw [(p b (by omega)).1, u1]⟩
  · obtain ⟨k1, k2, k3, k4⟩ := n1
    have e1 : sz (fun x => iv (fI N 125 x)) (mL M (A 202)) = sz (fun x => iv (fI M 125 x)) (mL M (A 202)) + (iv (fI N 125 t) - iv (fI M 125 t)) := sz_upd (f := fun x => iv (fI M 125 x)) (g := fun x => iv (fI N 125 x)) _ l.1 ht (fun x hx hxt => by rw [v125 x (by rw [(l.2.2.2 x hx).1]; decide), if_neg hxt])
    have e2 : sz (stk N) (mL M (A 204)) = sz (stk M) (mL M (A 204)) := sz_congr _ (fun b hb => by
      obtain ⟨b1, ⟨q, b2, b3, -⟩, -⟩ := u.2.2.2 b hb
      have hq : rf M 22 b = q := by unfold rf; rw [b2]; rfl
      unfold stk
      rw [rf_of p (by omega), hq, hA q 0 (by omega), hA q 1 (by omega), hA q 2 (by omega)])
    have e3 : sz (fun q => iv (fI N 182 q)) (mL M (A 206)) = sz (fun q => iv (fI M 182 q)) (mL M (A 206)) := sz_congr _ (fun x hx => by rw [(p x (by rw [(tt x hx).1]; decide)).2.1 _ (hnf _ (by decide))])
    have e4 : fI N 215 m = fI M 215 m := (p m hm0).2.1 _ (hnf _ (by decide))
    have e5 : sz (fun x => iv (fI N 182 x)) [q] = iv st := by
      show iv (fI N 182 q) + 0 = iv st
      rw [dd]; omega
    rw [v125 t (by omega), if_pos rfl, hst] at e1
    unfold nStem
    rw [l2, l4, vT, sz_app, e1, e2, e3, e4, e5]
    omega
  · have e1 : sm (fI N 127) (mL M (A 202)) = sm (fI M 127) (mL M (A 202)) + (fI N 127 t - fI M 127 t) := sm_upd _ l.1 ht (fun x hx hxt => by rw [v127 x (by rw [(l.2.2.2 x hx).1]; decide), if_neg hxt])
    have e3 : sm (fI N 26) (mL M (A 204)) = sm (fI M 26) (mL M (A 204)) + (fI N 26 b - fI M 26 b) := sm_upd _ u.1 hb (fun x hx hxt => by rw [v26 x (by rw [(u.2.2.2 x hx).1]; decide), if_neg hxt])
    have e5 : fI N 212 m = fI M 212 m := by rw [vo m 212 hm0 (by decide), fI_eBook_o 212 m (by decide) (by decide)]
    rw [v127 t (by omega), if_pos rfl] at e1
    rw [v26 b (by omega), if_pos rfl] at e3
    unfold nPail at n2 ⊢
    rw [l4, l2, e1, e3, e5]
    generalize sm (fI M 127) (mL M (A 202)) = a1 at *
    generalize sm (fI M 26) (mL M (A 204)) = a2 at *
    generalize fI M 127 t = a3 at *
    generalize fI M 26 b = a4 at *
    generalize fI M 212 m = a5 at *
    clear e1 e3 e5 p vo v129 hA vL vT vS v23 v26 v101 v104 v125 v127 v214 v216 hag hau hnf n1 n3 n4 n5 r l tt z u g' y s cc o hbn hk hk0 hlt1 hst hbk hpd h2k
    grind
  · have e1 : sm (fI N 101) (mL M (A 200)) = sm (fI M 101) (mL M (A 200)) + (fI N 101 g - fI M 101 g) := sm_upd _ g'.1 hgg (fun x hx hxt => by rw [v101 x (by rw [(g'.2.2 x hx).1]; decide), if_neg hxt])
    have e3 : sm (fI N 23) (mL M (A 204)) = sm (fI M 23) (mL M (A 204)) + (fI N 23 b - fI M 23 b) := sm_upd _ u.1 hb (fun x hx hxt => by rw [v23 x (by rw [(u.2.2.2 x hx).1]; decide), if_neg hxt])
    rw [v101 g (by omega), if_pos rfl] at e1
    rw [v23 b (by omega), if_pos rfl] at e3
    unfold nCoin at n3 ⊢
    rw [l4, l0, e1, e3, v214]
    generalize sm (fI M 101) (mL M (A 200)) = a1 at *
    generalize sm (fI M 23) (mL M (A 204)) = a2 at *
    generalize fI M 101 g = a3 at *
    generalize fI M 23 b = a4 at *
    generalize fI M 214 m = a5 at *
    clear e1 e3 p vo v129 hA vL vT vS v23 v26 v101 v104 v125 v127 v214 v216 hag hau hnf n1 n2 n4 n5 r l tt z u g' y s cc o hbn hk hk0 hlt1 hst hbk hpd h2k
    grind
  · have e1 : sm (fI N 104) (mL M (A 200)) = sm (fI M 104) (mL M (A 200)) + (fI N 104 g - fI M 104 g) := sm_upd _ g'.1 hgg (fun x hx hxt => by rw [v104 x (by rw [(g'.2.2 x hx).1]; decide), if_neg hxt])
    rw [v104 g (by omega), if_pos rfl] at e1
    unfold nSold at n4 ⊢
    rw [l0, e1, v216, n4]
    generalize fI M 104 g = a3 at *
    generalize fI M 216 m = a4 at *
    clear e1 p vo v129 hA vL vT vS v23 v26 v101 v104 v125 v127 v214 v216 hag hau hnf n1 n2 n3 n4 n5 r l tt z u g' y s cc o hbn hk hk0 hlt1 hst hbk hpd h2k
    grind
end HSL
