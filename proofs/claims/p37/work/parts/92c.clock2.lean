section CK2
variable {m : Nat} {A : Nat → Nat} {cut bound : Int} {K : Int32} {H : Int} {e : Nat} {M : kx_M}
/-- what the clock leaves -/
def pClk2 (m : Nat) (A : Nat → Nat) (cut bound : Int) (K : Int32) (H : Int) (M : kx_M) (t g : Nat) (rest : List Nat) (W0 : kx_M) (Es : List kx_E1) (N : kx_M) : Prop :=
  hI m A cut bound K H 0 N ∧ Bs m t g (A 206) (A 207) (sL M (A 203) rest) Es N ∧ Es.length ≤ 9 ∧ (∀ e ∈ Es, fI M 131 t ≤ eP e ∧ iv (eP e) ≤ 99) ∧ lf Es + iv (fI N 125 t) = iv (fI M 125 t) ∧ fI N 125 t = fI M 125 t - (vTot (A 209) (mL M (A 205)) 9 W0).1 ∧ fI N 101 g = fI M 101 g + (vTot (A 209) (mL M (A 205)) 9 W0).2 ∧ (Es = [] → ∃ W2, vNext (A 209) (mL M (A 205)) 5 W0 = (none, W2)) ∧ ((fI N 129 t = 0 ∧ 1 ≤ iv (fI N 125 t)) ∨ (fI N 129 t = 2 ∧ iv (fI N 125 t) = 0))
theorem h_clock2 (E : kx_E) {t g : Nat} {rest : List Nat} {W0 : kx_M} (h : hI m A cut bound K H 0 M) (hrow : mL M (A 203) = t :: rest) (hg : fR M 121 t = some g) (hgg : g ∈ mL M (A 200)) (hW : aG (A 209) (mL M (A 205)) W0 (eBegin (sL M (A 203) rest) (A 209) t (fI M 130 t) (fI M 131 t) (A 204) (A 205))) (hbW : hB (A 209) (mL M (A 205)) W0) (hmn : fI W0 64 (A 209) ≤ fI M 131 t) (hA : vAllGe (A 209) (mL M (A 205)) (fI M 131 t) 9 W0) : c2t_X9_clock E [.ref m] M 36 27099 (fun v N => ∃ Es, v = some (.int (fI M 125 t - fI N 125 t)) ∧ pClk2 m A cut bound K H M t g rest W0 Es N) := by
  obtain ⟨hp, ht, h129, htr⟩ := hI_pop h hrow
  have s := h.1
  obtain ⟨t1, -⟩ := h.2.2.2.2.2.2.1.2.2.2 t ht
  have g1 := (h.2.1.2.2 g hgg).1
  have hne : A 206 ≠ A 207 := s.ne (by decide) (by decide) (by decide)
  have hl : ∀ i, 200 ≤ i → i ≤ 207 → i ≠ 203 → mL (sL M (A 203) rest) (A i) = mL M (A i) := fun i i1 i2 i3 => mL_sL_ne _ _ _ _ (s.ne ⟨i1, i2⟩ (by decide) i3)
  have hrl : rest.length ≤ 500 := by
    have r3 := h.2.2.2.2.2.2.2.1.2.2
    have l16 := h.2.2.2.2.2.2.1.2.1
    have := List.length_filter_le (fun x => decide (fI M 129 x = 1)) (mL M (A 202))
    rw [hrow, List.length_cons] at r3
    omega
  refine (c2_X9_clock E (M := M) (m := m) (rl := A 203) (t := t) (g := g) (r := A 209) (bl := A 204) (ol := A 205) (tl := A 206) (sl := A 207) (rest := rest) s.1 (s.2.1 203 (by decide) (by decide)) (s.2.2.1 203 (by decide) (by decide)) hrow hrl t1 hg g1 (s.2.1 209 (by decide) (by decide)) s.2.2.2.2.1 (s.2.1 204 (by decide) (by decide)) (s.2.2.1 204 (by decide) (by decide)) (s.2.1 205 (by decide) (by decide)) (s.2.2.1 205 (by decide) (by decide)) (by have := h.2.2.1.2.1; omega) (by have := h.2.2.2.2.2.1.1; omega) (fun b hb => (h.2.2.1.2.2.2 b hb).1) (fun o ho => ?_) (s.2.1 206 (by decide) (by decide)) (s.2.2.1 206 (by decide) (by decide)) (s.2.1 207 (by decide) (by decide)) (s.2.2.1 207 (by decide) (by decide)) (s.ne (by decide) (by decide) (by decide)) (s.ne (by decide) (by decide) (by decide)) hne (s.ne (by decide) (by decide) (by decide)) (s.ne (by decide) (by decide) (by decide))
    (fun n N => ∃ Es W, hI m A cut bound K H (eR N t) N ∧ Bs m t g (A 206) (A 207) (sL M (A 203) rest) Es N ∧ Es.length + n ≤ 9 ∧ (∀ e ∈ Es, fI M 131 t ≤ eP e ∧ iv (eP e) ≤ 99) ∧ (aG (A 209) (mL M (A 205)) W N ∧ hB (A 209) (mL M (A 205)) W ∧ fI W 64 (A 209) ≤ fI N 64 (A 209) ∧ fI N 64 (A 209) = fI M 131 t ∧ vAllGe (A 209) (mL M (A 205)) (fI M 131 t) n W ∧ vCnt W (A 209) (mL M (A 205)) ≤ n) ∧ (fI N 66 (A 209) = fI N 125 t ∧ fI N 67 (A 209) = fI N 127 t ∧ ∀ b ∈ mL M (A 204), fI N 28 b = fI N 23 b) ∧ lf Es + iv (fI N 125 t) = iv (fI M 125 t) ∧ fI N 125 t - (vTot (A 209) (mL M (A 205)) n W).1 = fI M 125 t - (vTot (A 209) (mL M (A 205)) 9 W0).1 ∧ fI N 101 g + (vTot (A 209) (mL M (A 205)) n W).2 = fI M 101 g + (vTot (A 209) (mL M (A 205)) 9 W0).2 ∧ (Es = [] → W = W0) ∧ (fI N 129 t = 1 ∨ fI N 129 t = 2))
    (fun X => ∃ Es, hI m A cut bound K H (eR X t) X ∧ Bs m t g (A 206) (A 207) (sL M (A 203) rest) Es X ∧ Es.length ≤ 9 ∧ (∀ e ∈ Es, fI M 131 t ≤ eP e ∧ iv (eP e) ≤ 99) ∧ lf Es + iv (fI X 125 t) = iv (fI M 125 t) ∧ fI X 125 t = fI M 125 t - (vTot (A 209) (mL M (A 205)) 9 W0).1 ∧ fI X 101 g = fI M 101 g + (vTot (A 209) (mL M (A 205)) 9 W0).2 ∧ (Es = [] → ∃ W2, vNext (A 209) (mL M (A 205)) 5 W0 = (none, W2)) ∧ (fI X 129 t = 1 ∨ fI X 129 t = 2)) ?_ ?_ ?_).mono ?_
  · obtain ⟨a1, a2, a3, a4⟩ := ord_buyer h ho
    exact ⟨a3, _, a2, a4⟩
  · rintro n N o N2 ⟨Es, W, hIN, hBs, hlen, hpr, ⟨hG, hb, hmnW, h64, hAW, hcW⟩, ⟨h66, h67, h28⟩, hlf, hT1, hT2, hEs, hst⟩ hN hv
    obtain ⟨-, hrel⟩ := vNext_rel hG hb hmnW (by rw [h64]; exact hAW) hcW
    obtain ⟨k, W2, hk, hv2, hG2, e68, e69, e64, e64W, hA2, hc2, hb2⟩ := hrel o N2 hv
    subst hk
    have hNb := hB_aG hG hb
    obtain ⟨ho, -, -, p1, p99, pmn, t1', t2', t3', pm1, pm2, -⟩ := vNext_num hNb hv
    obtain ⟨-, -, -, q66, q67, -, q28⟩ := vNext_aft hNb hv
    have hoff : pOff N N2 := by
      have := pOff_next (r := A 209) (l := mL M (A 205)) 5 N N pOff.rfl
      rw [hv] at this
      exact this
    have off := fun i x (hi : ¬ rn i) => hoff.2 i x hi
    have hI2 := hI_off hIN hoff
    have hL : ∀ i, 200 ≤ i → i ≤ 207 → i ≠ 203 → i ≠ 206 → i ≠ 207 → mL N2 (A i) = mL M (A i) := fun i i1 i2 i3 i4 i5 => by
      rw [hoff.1.2.1, hBs.2.1 (A i) (s.2.2.1 i i1 i2) (s.ne ⟨i1, i2⟩ (by decide) i4) (s.ne ⟨i1, i2⟩ (by decide) i5), hl i i1 i2 i3]
    have hrowN : mL N2 (A 203) = rest := by
      rw [hoff.1.2.1, hBs.2.1 (A 203) (s.2.2.1 203 (by decide) (by decide)) (s.ne (by decide) (by decide) (by decide)) (s.ne (by decide) (by decide) (by decide)), mL_sL_eq]
    obtain ⟨ob1, ob2, ob3, ob4⟩ := ord_buyer h ho
    have hoN := hN o (by omega)
    have hbN := hN (rf M 140 o) (by omega)
    have rfN : rf N 140 o = rf M 140 o := by unfold rf; rw [hoN.2]
    have rfN2 : rf N2 140 o = rf M 140 o := by unfold rf; rw [hoff.1.2.2.1, hoN.2]
    generalize hbd : rf M 140 o = b at *
    have i129 : fI N2 129 t = fI N 129 t := off 129 t (by unfold rn; omega)
    have i125 : fI N2 125 t = fI N 125 t := off 125 t (by unfold rn; omega)
    have i127 : fI N2 127 t = fI N 127 t := off 127 t (by unfold rn; omega)
    have i23 : ∀ x, fI N2 23 x = fI N 23 x := fun x => off 23 x (by unfold rn; omega)
    have eR2 : eR N2 t = eR N t := by unfold eR; rw [i129]
    have htN := hN t (by omega)
    have hgN := hN g (by omega)
    have kN2 : ∀ x, kd M x ≠ 0 → kd N2 x = kd M x ∧ ∀ i, fR N2 i x = fR M i x := fun x hx => by
      have := hN x hx
      exact ⟨by rw [hoff.1.1]; exact this.1, fun i => by rw [hoff.1.2.2.1]; exact this.2 i⟩
    have hz1 := hIN.2.2.2.2.2.2.2.2.2.1.1
    have hr1 := rail_len hIN
    refine ⟨k, rfl, by omega, by omega, fun a q ha hq haq => ?_⟩
    rw [rfN2]
    generalize hst1 : fI N2 68 (A 209) = st at *
    generalize hpr1 : fI N2 69 (A 209) = pr at *
    rw [rfN] at pm2 q28
    rw [h28 b ob1] at pm2
    have hsell := hI_sell (oo := some o) (st := st) (pr := pr) (b := b) (g := g) (a := a) (q := q) (M := N2) (t := t) (by rw [eR2]; exact hI2) (by rw [hL 202 (by decide) (by decide) (by decide) (by decide) (by decide)]; exact ht) (by rw [hL 204 (by decide) (by decide) (by decide) (by decide) (by decide)]; exact ob1) (by rw [(kN2 t (by omega)).2, hg]) (by rw [hL 200 (by decide) (by decide) (by decide) (by decide) (by decide)]; exact hgg) (fun x hx => by cases hx; rw [(kN2 o (by omega)).1, ob3]) ha hq haq t1' (by rw [i125, ← h66]; exact t3') (by rw [pm1]; exact Int.mul_nonneg (by omega) (by omega)) (by rw [pm1, i23]; exact pm2) (by rw [hrowN]; exact htr)
    have hu2 := hI2.2.2.1.2.2.2 b (by rw [hL 204 (by decide) (by decide) (by decide) (by decide) (by decide)]; exact ob1)
    have hlt2 := hI2.2.2.2.2.2.2.1.2.2.2 t (by rw [hL 202 (by decide) (by decide) (by decide) (by decide) (by decide)]; exact ht)
    have hvb : iv (vBuckets st) = (iv st + 19) / 20 := iv_vBuckets (by omega)
    have hk0 : iv (vMin (vBuckets st) (fI N2 127 t)) = if iv (fI N2 127 t) < (iv st + 19) / 20 then iv (fI N2 127 t) else (iv st + 19) / 20 := by rw [iv_vMin, hvb]
    obtain ⟨l1, l2, l3, l4, l5, l6, l7⟩ := hlt2
    obtain ⟨u1, u2', u3, u4, u5, u6, u7, u8⟩ := hu2
    have hsB := Bs_sell (b := b) (a := a) (q := q) (oo := some o) (st := st) (pr := pr) (Bs_off hBs hoff) s.1 t1 ob4 g1 (fun x hx => by cases hx; exact ob3) ha hq haq (s.2.2.1 206 (by decide) (by decide)) (s.2.2.1 207 (by decide) (by decide)) hne (by omega) t1' u7 (by omega) (by split at hk0 <;> omega) (by split at hk0 <;> omega)
    have nm : kd N2 m = 11 := by rw [(kN2 m (by rw [s.1]; decide)).1, s.1]
    have nt : kd N2 t = 7 := by rw [(kN2 t (by omega)).1, t1]
    have nb : kd N2 b = 2 := by rw [(kN2 b (by omega)).1, ob4]
    have ng : kd N2 g = 6 := by rw [(kN2 g (by omega)).1, g1]
    have no : ∀ x, some o = some x → kd N2 x = 8 := fun x hx => by cases hx; rw [(kN2 o (by omega)).1, ob3]
    have nr : kd N2 (A 209) = 4 := by rw [(kN2 _ (by rw [s.2.2.2.2.1]; decide)).1, s.2.2.2.2.1]
    have pag := sell_ag (M := N2) (m := m) (t := t) (b := b) (g := g) (oo := some o) (st := st) (pr := pr) (tl := A 206) (sl := A 207) (a := a) (q := q) ha hq nm nt nb ng no
    have vo := fun x i (hx : kd N2 x ≠ 0) hi => sell_old (M := N2) (m := m) (t := t) (b := b) (g := g) (oo := some o) (st := st) (pr := pr) (tl := A 206) (sl := A 207) (a := a) (q := q) ha hq nm nt nb ng no hx i hi
    have v129 : fI (eSell N2 m t b g (some o) st pr (A 206) (A 207) a q) 129 t = if t = t ∧ fI N2 125 t - st < 1 then 2 else fI N2 129 t := sell_129 ha hq nt (by omega)
    have v125 := (vo t 125 (by omega) (by decide)).trans (bk_125 t)
    have v127 := (vo t 127 (by omega) (by decide)).trans (bk_127 t)
    have v101 := (vo g 101 (by omega) (by decide)).trans (bk_101 g)
    rw [if_pos rfl] at v125 v127 v101
    have v23 : ∀ x, kd N2 x ≠ 0 → fI (eSell N2 m t b g (some o) st pr (A 206) (A 207) a q) 23 x = if x = b then fI N2 23 b - (pr * st + 2 * vMin (vBuckets st) (fI N2 127 t)) else fI N2 23 x := fun x hx => (vo x 23 hx (by decide)).trans (bk_23 x)
    have nf : ∀ i, i ∈ [60, 61, 62, 63, 64, 65, 66, 67, 28] → ¬ sF i := fun i hi => by
      simp only [List.mem_cons, List.not_mem_nil, or_false] at hi
      unfold sF; omega
    have pr9 := (pag (A 209) (by omega)).2.1
    generalize eSell N2 m t b g (some o) st pr (A 206) (A 207) a q = N3 at *
    have i101 : fI N2 101 g = fI N 101 g := off 101 g (by unfold rn; omega)
    rw [vTot_s hv2] at hT1 hT2
    rw [← e68, ← e69] at hT1 hT2
    refine ⟨_ :: Es, W2, hsell, hsB, by rw [List.length_cons]; omega, fun e he => ?_, ⟨?_, hb2, ?_, ?_, by rw [← h64]; exact hA2, hc2⟩, ⟨?_, ?_, fun x hx => ?_⟩, ?_, ?_, ?_, (fun z => by cases z), ?_⟩
    · rcases List.mem_cons.mp he with rfl | he
      · exact ⟨by rw [← h64]; exact pmn, p99⟩
      · exact hpr e he
    · exact aG_ag hG2 pag (by omega) (fun x hx => by
        obtain ⟨x1, x2, x3, x4⟩ := ord_buyer h hx
        have hxN := kN2 x (by omega)
        have : rf N2 140 x = rf M 140 x := by unfold rf; rw [hxN.2]
        rw [this, hxN.1, (kN2 _ (by omega : kd M (rf M 140 x) ≠ 0)).1, x3, x4]
        exact ⟨by decide, by decide⟩)
    · rw [pr9 64 (nf _ (by decide)), e64W, e64]; exact hmnW
    · rw [pr9 64 (nf _ (by decide)), e64, h64]
    · rw [pr9 66 (nf _ (by decide)), v125, q66, h66, i125]
    · rw [pr9 67 (nf _ (by decide)), v127, q67, h67, i127]
    · have hx2 : kd N2 x ≠ 0 := by
        have := (h.2.2.1.2.2.2 x hx).1
        rw [(kN2 x (by omega)).1, this]
        decide
      rw [(pag x hx2).2.1 28 (nf _ (by decide)), v23 x hx2, q28, i127, ← h67, i23, i23, h28 b ob1, h28 x hx]
    · show iv st + lf Es + _ = _
      have h125 := iv_hi (fI N 125 t)
      have t3'' : iv st ≤ iv (fI N 125 t) := by rw [← h66]; exact t3'
      rw [v125, i125, iv_sub (by omega) (by omega)]
      omega
    · rw [← hT1, v125, i125]
      generalize (vTot (A 209) (mL M (A 205)) k W2).1 = u at *
      clear v125 v127 v101 v23 v129 vo pag pr9 hsell hsB
      grind
    · rw [← hT2, v101, i101]
      generalize (vTot (A 209) (mL M (A 205)) k W2).2 = u at *
      generalize vShare (pr * st) = w at *
      clear v125 v127 v101 v23 v129 vo pag pr9 hsell hsB
      grind
    · rw [v129, i129]
      split
      · exact Or.inr rfl
      · exact hst
  · rintro n N N2 ⟨Es, W, hIN, hBs, hlen, hpr, ⟨hG, hb, hmnW, h64, hAW, hcW⟩, ⟨h66, h67, h28⟩, hlf, hT1, hT2, hEs, hst⟩ hv
    obtain ⟨hrel, -⟩ := vNext_rel hG hb hmnW (by rw [h64]; exact hAW) hcW
    obtain ⟨W2, hv2⟩ := hrel N2 hv
    have hoff : pOff N N2 := by
      have := pOff_next (r := A 209) (l := mL M (A 205)) 5 N N pOff.rfl
      rw [hv] at this
      exact this
    have i129 : fI N2 129 t = fI N 129 t := hoff.2 129 t (by unfold rn; omega)
    have i125 : fI N2 125 t = fI N 125 t := hoff.2 125 t (by unfold rn; omega)
    have i101 : fI N2 101 g = fI N 101 g := hoff.2 101 g (by unfold rn; omega)
    have eR2 : eR N2 t = eR N t := by unfold eR; rw [i129]
    rw [vTot_n hv2] at hT1 hT2
    refine ⟨Es, by rw [eR2]; exact hI_off hIN hoff, Bs_off hBs hoff, by omega, hpr, by rw [i125]; exact hlf, ?_, ?_, fun z => ⟨W2, by rw [← hEs z]; exact hv2⟩, by rw [i129]; exact hst⟩
    · rw [i125, ← hT1]
      show _ = _ - (0 : Int32)
      rw [Int32.sub_zero]
    · rw [i101, ← hT2]
      show _ = _ + (0 : Int32)
      rw [Int32.add_zero]
  · have e1 : eR (eBegin (sL M (A 203) rest) (A 209) t (fI M 130 t) (fI M 131 t) (A 204) (A 205)) t = 1 := by
      unfold eR
      rw [fI_begin_o (by unfold rn; omega), fI_sL, h129]
      rfl
    obtain ⟨c60, c61, c62, c63, c64, c65, c66, c67⟩ := fI_begin_run (M := sL M (A 203) rest) (r := A 209) (t := t) (told := fI M 130 t) (mn := fI M 131 t) (bl := A 204) (ol := A 205)
    have l4 := hl 204 (by decide) (by decide) (by decide)
    refine ⟨[], W0, by rw [e1]; exact hI_off hp (pOff_begin _ _ _ _ _ _ _), Bs_off (Bs_nil (by rw [hl 207 (by decide) (by decide) (by decide)]; exact h.2.2.2.2.2.2.2.2.2.1.1)) (pOff_begin _ _ _ _ _ _ _), by show 0 + 9 ≤ 9; omega, fun e he => absurd he List.not_mem_nil, ⟨hW, hbW, by rw [c64]; exact hmn, c64, hA, ?_⟩, ⟨?_, ?_, fun b hb => ?_⟩, ?_, ?_, ?_, fun _ => rfl, ?_⟩
    · have := h.2.2.2.2.2.1.1
      unfold vCnt
      exact Nat.le_trans (List.length_filter_le _ _) this
    · rw [c66, fI_begin_o (by unfold rn; omega)]
    · rw [c67, fI_begin_o (by unfold rn; omega)]
    · rw [fI_begin_28 (by rw [l4]; exact hb), fI_begin_o (by unfold rn; omega)]
    · rw [fI_begin_o (by unfold rn; omega), fI_sL]
      show (0 : Int) + _ = _
      omega
    · rw [fI_begin_o (by unfold rn; omega), fI_sL]
    · rw [fI_begin_o (by unfold rn; omega), fI_sL]
    · rw [fI_begin_o (by unfold rn; omega), fI_sL]
      exact Or.inl h129
  · rintro v N ⟨X, ⟨Es, x1, x2, x3, x4, x5, x6, x7, xE, x8⟩, hX, rfl, rfl⟩
    have hLX : ∀ i, 200 ≤ i → i ≤ 207 → i ≠ 203 → i ≠ 206 → i ≠ 207 → mL X (A i) = mL M (A i) := fun i i1 i2 i3 i4 i5 => by
      rw [x2.2.1 (A i) (s.2.2.1 i i1 i2) (s.ne ⟨i1, i2⟩ (by decide) i4) (s.ne ⟨i1, i2⟩ (by decide) i5), hl i i1 i2 i3]
    have hrowX : mL X (A 203) = rest := by
      rw [x2.2.1 (A 203) (s.2.2.1 203 (by decide) (by decide)) (s.ne (by decide) (by decide) (by decide)) (s.ne (by decide) (by decide) (by decide)), mL_sL_eq]
    have htX : t ∈ mL X (A 202) := by rw [hLX 202 (by decide) (by decide) (by decide) (by decide) (by decide)]; exact ht
    obtain ⟨l1, l2, l3, l4, l5, l6, l7⟩ := x1.2.2.2.2.2.2.1.2.2.2 t htX
    by_cases hz : fI X 129 t = 1
    · rw [if_pos hz]
      have e1 : eR X t = 1 := if_pos hz
      rw [e1] at x1
      rw [hz] at l7
      refine ⟨Es, by rw [fI_sI_ne _ _ _ _ _ _ (by decide)], hI_unrow x1 htX hz (by rw [hrowX]; exact htr), Bs_129 x2 0, x3, x4, by rw [fI_sI_ne _ _ _ _ _ _ (by decide)]; exact x5, by rw [fI_sI_ne _ _ _ _ _ _ (by decide)]; exact x6, by rw [fI_sI_ne _ _ _ _ _ _ (by decide)]; exact x7, xE, Or.inl ⟨fI_sI_eq _ _ _ _, ?_⟩⟩
      rw [fI_sI_ne _ _ _ _ _ _ (by decide)]
      rcases l7 with l7 | l7
      · exact l7.2
      · exact absurd l7.1 (by decide)
    · rw [if_neg hz]
      have e1 : eR X t = 0 := if_neg hz
      rw [e1] at x1
      have h2 := x8.resolve_left hz
      rw [h2] at l7
      refine ⟨Es, rfl, x1, x2, x3, x4, x5, x6, x7, xE, Or.inr ⟨h2, ?_⟩⟩
      rcases l7 with l7 | l7
      · exact absurd l7.1 (by decide)
      · exact l7.2
end CK2
