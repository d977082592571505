theorem i_ssc (w u : Int32) : w - (w - u) = u := by grind
theorem i_asc (w u : Int32) : w + u - w = u := by grind
theorem i_six (a b c x y z : Int32) : a + b + c - x - y - z = a + b + c - (x + y + z) := by grind
theorem i_sas (a b c : Int32) : a - (b + c) = a - b - c := by grind
theorem f2wf_1 (E : kx_E) (M : kx_M) (m : Nat) (i : Int32) : (f2_X9_wouldFetch E [.ref m, .int i] M).1 = (pAt M m 202 7 i ∧ pRun M m (el M 202 m i)) := by exact (Eq.refl _)
theorem f2wf_2 (E : kx_E) (M : kx_M) (m : Nat) (i : Int32) : (f2_X9_wouldFetch E [.ref m, .int i] M).2.1 = [.int (vFP M m (el M 202 m i))] := by
  show [Value.int (match (vTake1 M m (eAsk M m (el M 202 m i))).1 with
    | none => -1
    | some _ => fI (vTake1 M m (eAsk M m (el M 202 m i))).2 69 (rf M 209 m))] = [Value.int (match (vTake1 M m (eAsk M m (el M 202 m i))).1 with
    | none => -1
    | some _ => fI (vTake1 M m (eAsk M m (el M 202 m i))).2 69 (rf M 209 m))]
  generalize vTake1 M m (eAsk M m (el M 202 m i)) = p
  obtain ⟨o, N⟩ := p
  cases o with
  | none => exact (Eq.refl _)
  | some o => exact (Eq.refl _)
theorem f2wf_3 (E : kx_E) (M : kx_M) (m : Nat) (i : Int32) : (f2_X9_wouldFetch E [.ref m, .int i] M).2.2 = (vTake1 M m (eAsk M m (el M 202 m i))).2 := by exact (Eq.refl _)
theorem f2bm_1 (E : kx_E) (M : kx_M) (m : Nat) (i : Int32) : (f2_X9_bestMinimum E [.ref m, .int i] M).1 = (pAt M m 202 7 i ∧ pRun M m (el M 202 m i)) := by exact (Eq.refl _)
theorem f2bm_2 (E : kx_E) (M : kx_M) (m : Nat) (i : Int32) : (f2_X9_bestMinimum E [.ref m, .int i] M).2.1 = [.int (vLP M m (el M 202 m i))] := by exact (Eq.refl _)
theorem f2bm_3 (E : kx_E) (M : kx_M) (m : Nat) (i : Int32) : (f2_X9_bestMinimum E [.ref m, .int i] M).2.2 = (vLow M m 200 99 (eAsk M m (el M 202 m i))).2 := by exact (Eq.refl _)
/-- fields that a sale and its undoing, a bring and a run may change -/
def F4 (i : Nat) : Prop := rn i ∨ i = 129 ∨ i = 130 ∨ i = 131
theorem nF4 {i : Nat} (h : ¬ rn i) (a : i ≠ 129) (b : i ≠ 130) (c : i ≠ 131) : ¬ F4 i := fun z => z.elim h (fun z => z.elim a (fun z => z.elim b c))
theorem eBring_ag (M : kx_M) (t q rl : Nat) (told mn : Int32) : pAg (fun i => i = 129 ∨ i = 130 ∨ i = 131) M (eBring M t q rl told mn) := fun x hx => ⟨by unfold eBring; rw [kd_sL, kd_sI, kd_sI, kd_sI, kd_ePut], fun i hi => by unfold eBring; rw [fI_sL, fI_sI_ne _ _ _ _ _ _ (fun z => hi (Or.inl z)), fI_sI_ne _ _ _ _ _ _ (fun z => hi (Or.inr (Or.inr z))), fI_sI_ne _ _ _ _ _ _ (fun z => hi (Or.inr (Or.inl z))), fI_ePut], fun i => by unfold eBring; rw [fR_sL, fR_sI, fR_sI, fR_sI, fR_ePut]⟩
theorem eBring_130 (M : kx_M) (t q rl : Nat) (told mn : Int32) : fI (eBring M t q rl told mn) 130 t = told := by unfold eBring; rw [fI_sL, fI_sI_ne _ _ _ _ _ _ (by decide), fI_sI_ne _ _ _ _ _ _ (by decide), fI_sI_eq]
theorem eBring_131 (M : kx_M) (t q rl : Nat) (told mn : Int32) : fI (eBring M t q rl told mn) 131 t = mn := by unfold eBring; rw [fI_sL, fI_sI_ne _ _ _ _ _ _ (by decide), fI_sI_eq]
theorem eBring_rl (M : kx_M) (t q rl : Nat) (told mn : Int32) : mL (eBring M t q rl told mn) rl = mL M rl ++ [t] := by unfold eBring; rw [mL_sL_eq]
theorem eBring_mL {M : kx_M} {t q rl x : Nat} {told mn : Int32} (h : x ≠ rl) : mL (eBring M t q rl told mn) x = mL M x := by unfold eBring; rw [mL_sL_ne _ _ _ _ h, mL_sI, mL_sI, mL_sI, mL_ePut]
theorem eBring_bcv {M : kx_M} {t q rl : Nat} {told mn : Int32} (hc : 0 ≤ iv (fI M 123 t) ∧ iv (fI M 123 t) ≤ 2) : bcv (eBring M t q rl told mn) q (fI M 123 t) = bcv M q (fI M 123 t) + fI M 125 t := by
  rw [bcv_at hc]
  unfold eBring
  rw [aI_sL, aI_sI, aI_sI, aI_sI, ePut_in hc, aI_sA_eq]
theorem iv_500 : iv 500 = 500 := by decide
section BF
variable {m : Nat} {A : Nat → Nat} {cut bound : Int} {K : Int32} {H : Int} {M : kx_M} {e : Nat}
theorem aH_of (h : hI m A cut bound K H e M) {t : Nat} (ht : t ∈ mL M (A 202)) {N : kx_M} (p : pAg F4 M N) (l4 : mL N (A 204) = mL M (A 204)) (l5 : mL N (A 205) = mL M (A 205)) : aH M N t (A 204) (A 205) ∧ fI N 126 t = fI M 126 t := by
  obtain ⟨kg, g, g1, g2, g3, g4, g5⟩ := lot_gro h ht
  have t7 : kd M t = 7 := (h.2.2.2.2.2.2.1.2.2.2 t ht).1
  have g6 : kd M g = 6 := (h.2.1.2.2 g g2).1
  have pt := p t (by omega)
  have pg := p g (by omega)
  have rt : rf N 121 t = rf M 121 t := by unfold rf; rw [pt.2.2]
  have nf : ∀ i, ¬ rn i → i ≠ 129 → i ≠ 130 → i ≠ 131 → ¬ F4 i := fun i a b c d => nF4 a b c d
  refine ⟨⟨⟨pt.2.1 123 (nf _ (by unfold rn; omega) (by decide) (by decide) (by decide)), pt.2.1 124 (nf _ (by unfold rn; omega) (by decide) (by decide) (by decide)), pt.2.1 125 (nf _ (by unfold rn; omega) (by decide) (by decide) (by decide)), pt.2.1 127 (nf _ (by unfold rn; omega) (by decide) (by decide) (by decide)), ?_⟩, l4, l5, fun o ho => ?_, fun b hb => ?_⟩, pt.2.1 126 (nf _ (by unfold rn; omega) (by decide) (by decide) (by decide))⟩
  · rw [rt, g5]
    exact pg.2.1 103 (nf _ (by unfold rn; omega) (by decide) (by decide) (by decide))
  · obtain ⟨o1, o2, o3, o4⟩ := ord_buyer h ho
    have po := p o (by omega)
    exact ⟨po.2.2 140, po.2.1 141 (nf _ (by unfold rn; omega) (by decide) (by decide) (by decide)), po.2.1 142 (nf _ (by unfold rn; omega) (by decide) (by decide) (by decide)), po.2.1 143 (nf _ (by unfold rn; omega) (by decide) (by decide) (by decide)), po.2.1 144 (nf _ (by unfold rn; omega) (by decide) (by decide) (by decide)), po.2.1 145 (nf _ (by unfold rn; omega) (by decide) (by decide) (by decide)), po.2.1 146 (nf _ (by unfold rn; omega) (by decide) (by decide) (by decide)), o1⟩
  · have pb := p b (by rw [(h.2.2.1.2.2.2 b hb).1]; decide)
    exact ⟨pb.2.1 20 (nf _ (by unfold rn; omega) (by decide) (by decide) (by decide)), pb.2.1 21 (nf _ (by unfold rn; omega) (by decide) (by decide) (by decide)), pb.2.1 23 (nf _ (by unfold rn; omega) (by decide) (by decide) (by decide)), pb.2.1 24 (nf _ (by unfold rn; omega) (by decide) (by decide) (by decide))⟩
theorem aW_of (h : hI m A cut bound K H e M) {t : Nat} (ht : t ∈ mL M (A 202)) {N : kx_M} (p : pAg F4 M N) (l4 : mL N (A 204) = mL M (A 204)) (l5 : mL N (A 205) = mL M (A 205)) : aW M N m t := by
  have s := h.1
  have r4 : rf M 204 m = A 204 := hS_rf s (by decide) (by decide)
  have r5 : rf M 205 m = A 205 := hS_rf s (by decide) (by decide)
  obtain ⟨a1, a2⟩ := aH_of h ht p l4 l5
  have hm : kd M m ≠ 0 := by rw [s.1]; decide
  refine ⟨rf_of p hm, rf_of p hm, rf_of p hm, a2, ?_, ?_⟩
  · rw [r4, r5]; exact a1
  · rw [r4, r5]; exact hI_pBnd h ht
theorem ask_eq (h : hI m A cut bound K H e M) (t : Nat) : eAsk M m t = eBegin M (A 209) t (fI M 126 t) 1 (A 204) (A 205) := by
  have s := h.1
  unfold eAsk
  rw [hS_rf s (i := 209) (by decide) (by decide), hS_rf s (i := 204) (by decide) (by decide), hS_rf s (i := 205) (by decide) (by decide)]
/-- what would be, and the best minimum -/
theorem best_facts (h : hI m A cut bound K H e M) {t : Nat} (ht : t ∈ mL M (A 202)) : hB (A 209) (mL M (A 205)) (eAsk M m t) ∧ fI (eAsk M m t) 64 (A 209) = 1 ∧ 1 ≤ iv (vLP M m t) ∧ iv (vLP M m t) ≤ 99 ∧ vAllGe (A 209) (mL M (A 205)) (vLP M m t) 9 (eAsk M m t) ∧ vAllGe (A 209) (mL M (A 205)) 1 9 (eAsk M m t) ∧ ((vFP M m t = -1 ∧ vLP M m t = 99 ∧ ∃ W2, vNext (A 209) (mL M (A 205)) 5 (eAsk M m t) = (none, W2)) ∨ (1 ≤ iv (vFP M m t) ∧ iv (vFP M m t) ≤ 99 ∧ iv (vLP M m t) ≤ iv (vFP M m t) ∧ ∃ o W2, vNext (A 209) (mL M (A 205)) 5 (eAsk M m t) = (some o, W2))) := by
  have s := h.1
  have r9 : rf M 209 m = A 209 := hS_rf s (by decide) (by decide)
  have r5 : rf M 205 m = A 205 := hS_rf s (by decide) (by decide)
  have hb0 : hB (A 209) (mL M (A 205)) (eAsk M m t) := by rw [ask_eq h]; exact hB_begin (hI_pBnd h ht)
  have c64 : fI (eAsk M m t) 64 (A 209) = 1 := by rw [ask_eq h]; exact fI_begin_run.2.2.2.2.1
  have hl : mL M (rf M 205 m) = mL M (A 205) := by rw [r5]
  have i99 : (1 : Int) ≤ iv 99 := by decide
  obtain ⟨l1, l2, l3⟩ := vLow_spec (M := M) (m := m) r9 hl 200 99 (eAsk M m t) hb0 i99
  have e1 : vLP M m t = (vLow M m 200 99 (eAsk M m t)).1 := Eq.trans rfl rfl
  rw [← e1] at l1 l2 l3
  have l2' := iv_le.mp l2
  rw [iv_99] at l2'
  have own := vAllGe_own (r := A 209) (l := mL M (A 205)) 9 _ hb0
  rw [c64] at own
  refine ⟨hb0, c64, l1, l2', vAllGe_mono (Int32.le_refl _) 200 9 _ (by decide) l3, own, ?_⟩
  have eF : vFP M m t = match (vNext (A 209) (mL M (A 205)) 5 (eAsk M m t)).1 with
    | none => -1
    | some _ => fI (vNext (A 209) (mL M (A 205)) 5 (eAsk M m t)).2 69 (A 209) := by
    unfold vFP vTake1
    rw [r9, r5]
    generalize vNext (A 209) (mL M (A 205)) 5 (eAsk M m t) = p
    obtain ⟨o, N⟩ := p
    cases o with
    | none => exact (Eq.refl _)
    | some o => exact (Eq.refl _)
  cases hv : vNext (A 209) (mL M (A 205)) 5 (eAsk M m t) with
  | mk o W2 =>
    rw [hv] at eF
    cases o with
    | none => exact Or.inl ⟨eF, by rw [e1]; exact vLow_none r9 hl hv, W2, rfl⟩
    | some o =>
      obtain ⟨-, -, -, p1, p2, -⟩ := vNext_num hb0 hv
      have eF' : vFP M m t = fI W2 69 (A 209) := eF
      have lf := vLow_first (n := 199) (x := 99) r9 hl hb0 i99 hv
      rw [← e1, ← eF'] at lf
      rw [← eF'] at p1 p2
      exact Or.inr ⟨p1, p2, iv_le.mp lf, o, W2, rfl⟩
/-- brought -/
theorem h_bring (E : kx_E) {k t g q : Nat} {told mn : Int32} (h : hI m A cut bound K H 0 M) (hk : (mL M (A 202))[k]? = some t) (hg : fR M 121 t = some g) (hgg : g ∈ mL M (A 200)) (hq : fR M 100 g = some q) (h0 : fI M 129 t = 0) (h1 : 0 ≤ iv told ∧ iv told ≤ 110) (h2 : 1 ≤ iv mn ∧ iv mn ≤ 99) (h500 : iv (bcv M q (fI M 123 t)) + iv (fI M 125 t) ≤ 500) : c2t_X9_bring E [.ref m, .int (nI k), .int told, .int mn] M 1 1500 (fun v N => v = some (.int (nI ((mL M (A 203)).length + 1))) ∧ N = eBring M t q (A 203) told mn ∧ hI m A cut bound K H 0 N ∧ fI N 129 t = 1) := by
  have s := h.1
  have ht := List.mem_of_getElem? hk
  obtain ⟨t1, t2, t3, t4, t5, t6, t7⟩ := h.2.2.2.2.2.2.1.2.2.2 t ht
  obtain ⟨g1, ⟨q', g2, g3, g4⟩, -⟩ := h.2.1.2.2 g hgg
  rw [hq] at g2; cases g2
  obtain ⟨-, -, a1, a2, a3⟩ := at_lot h hk
  have hrl := row_len h
  have b0 : 0 ≤ iv (bcv M q (fI M 123 t)) := by rw [bcv_at t3]; exact (g4 _ (bcv_in t3).2).1
  have e8 : bcv M (A 208) (fI M 123 t) = 500 := by rw [bcv_at t3]; exact h.2.2.2.1.2 _ (bcv_in t3).2
  refine (c2_X9_bring E (M := M) (m := m) (t := A 202) (x := t) (g := g) (q := q) (rl := A 203) (qa := A 208) (i := nI k) (told := told) (mn := mn) s.1 (s.2.1 202 (by decide) (by decide)) (s.2.2.1 202 (by decide) (by decide)) a1 a2 a3 t1 ⟨iv_le.mpr (by rw [iv_0]; exact h1.1), iv_le.mpr (by rw [iv_110]; exact h1.2)⟩ ⟨iv_le.mpr (by rw [iv_1]; exact h2.1), iv_le.mpr (by rw [iv_99]; exact h2.2)⟩ hg g1 hq g3 h0 (s.2.1 208 (by decide) (by decide)) s.2.2.2.1 (by rw [e8, iv_le, iv_500, iv_add (by omega) (by omega)]; exact h500) (s.2.1 203 (by decide) (by decide)) (s.2.2.1 203 (by decide) (by decide)) (by omega)).mono ?_
  rintro v N ⟨rfl, rfl⟩
  obtain ⟨c1, c2⟩ := hI_bring h (told := told) (mn := mn) ht hgg hq h0 h500
  exact ⟨rfl, rfl, c1, c2⟩
theorem dL_216 (m t g : Nat) : ∀ (l : List kx_E1), dL m t g l 216 m = sE l := by
  intro l
  induction l with
  | nil => exact (Eq.refl _)
  | cons e l ih =>
    show dL m t g l 216 m + dE m t g e 216 m = eT e + sE l
    rw [ih, dE_216, Int32.add_comm]
end BF
