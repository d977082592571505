section OP
variable {m : Nat} {A : Nat → Nat} {cut bound : Int} {K : Int32} {H : Int} {e : Nat} {M : kx_M}
theorem byc_ne_gu (h : hY A M) {g b q s : Nat} (hg : g ∈ mL M (A 200)) (hb : b ∈ mL M (A 204)) (h1 : fR M 100 g = some q) (h2 : fR M 22 b = some s) : q ≠ s := by
  have hn := h.1
  obtain ⟨-, hn⟩ := List.nodup_cons.mp hn
  rw [List.nodup_append] at hn
  have a1 : q ∈ (mL M (A 200)).map (rf M 100) := List.mem_map.mpr ⟨g, hg, by unfold rf; rw [h1]; rfl⟩
  have a2 : s ∈ (mL M (A 204)).map (rf M 22) := List.mem_map.mpr ⟨b, hb, by unfold rf; rw [h2]; rfl⟩
  exact hn.2.2 q a1 s a2
theorem byc_ne_g8 (h : hY A M) {g q : Nat} (hg : g ∈ mL M (A 200)) (h1 : fR M 100 g = some q) : q ≠ A 208 := fun z => by
  have hn := (List.nodup_cons.mp h.1).1
  exact hn (List.mem_append_left _ (List.mem_map.mpr ⟨g, hg, by unfold rf; rw [h1]; exact z⟩))
theorem byc_ne_u8 (h : hY A M) {g q : Nat} (hg : g ∈ mL M (A 204)) (h1 : fR M 22 g = some q) : q ≠ A 208 := fun z => by
  have hn := (List.nodup_cons.mp h.1).1
  exact hn (List.mem_append_right _ (List.mem_map.mpr ⟨g, hg, by unfold rf; rw [h1]; exact z⟩))
theorem nodup_map_inj {f : Nat → Nat} : ∀ {l : List Nat}, (l.map f).Nodup → ∀ a ∈ l, ∀ b ∈ l, f a = f b → a = b := by
  intro l
  induction l with
  | nil => intro _ a ha; exact absurd ha List.not_mem_nil
  | cons x l ih =>
    intro h a ha b hb hab
    rw [List.map_cons] at h
    obtain ⟨h1, h2⟩ := List.nodup_cons.mp h
    rcases List.mem_cons.mp ha with rfl | ha'
    · rcases List.mem_cons.mp hb with rfl | hb'
      · rfl
      · exact absurd (List.mem_map.mpr ⟨b, hb', hab.symm⟩) h1
    · rcases List.mem_cons.mp hb with rfl | hb'
      · exact absurd (List.mem_map.mpr ⟨a, ha', hab⟩) h1
      · exact ih h2 a ha' b hb' hab
theorem byc_inj_g (h : hY A M) {a b q : Nat} (ha : a ∈ mL M (A 200)) (hb : b ∈ mL M (A 200)) (h1 : fR M 100 a = some q) (h2 : fR M 100 b = some q) : a = b := by
  have hn := (List.nodup_append.mp (List.nodup_cons.mp h.1).2).1
  exact nodup_map_inj hn a ha b hb (by unfold rf; rw [h1, h2])
theorem byc_inj_u (h : hY A M) {a b q : Nat} (ha : a ∈ mL M (A 204)) (hb : b ∈ mL M (A 204)) (h1 : fR M 22 a = some q) (h2 : fR M 22 b = some q) : a = b := by
  have hn := (List.nodup_append.mp (List.nodup_cons.mp h.1).2).2.1
  exact nodup_map_inj hn a ha b hb (by unfold rf; rw [h1, h2])
/-- fields that no part speaks of may change -/
theorem hI_free {F : Nat → Prop} {N : kx_M} (h : hI m A cut bound K H e M) (p : pAg F M N) (hl : ∀ i, 200 ≤ i → i ≤ 207 → mL N (A i) = mL M (A i)) (ha : pAa M N) (hF : ∀ i ∈ [102, 103, 20, 21, 24, 25, 23, 26, 81, 82, 84, 85, 86, 210, 145, 120, 122, 123, 125, 126, 127, 129, 181, 182, 183, 215, 212, 214, 101, 104, 216, 211, 213], ¬ F i) : hI m A cut bound K H e N := by
  obtain ⟨s, g, u, y, c, o, l, r, t, z, n1, n2, n3, n4, n5⟩ := h
  have f : ∀ i, i ∈ [102, 103, 20, 21, 24, 25, 23, 26, 81, 82, 84, 85, 86, 210, 145, 120, 122, 123, 125, 126, 127, 129, 181, 182, 183, 215, 212, 214, 101, 104, 216, 211, 213] → ¬ F i := hF
  have l0 := hl 200 (by decide) (by decide)
  have l1 := hl 201 (by decide) (by decide)
  have l2 := hl 202 (by decide) (by decide)
  have l3 := hl 203 (by decide) (by decide)
  have l4 := hl 204 (by decide) (by decide)
  have l5 := hl 205 (by decide) (by decide)
  have l6 := hl 206 (by decide) (by decide)
  have l7 := hl 207 (by decide) (by decide)
  have hag : ∀ x ∈ mL M (A 200), ∀ q, fR M 100 x = some q → ∀ j, aI N q j = aI M q j := fun x hx q hq j => by
    obtain ⟨-, ⟨q', b2, b3, -⟩, -⟩ := g.2.2 x hx
    rw [hq] at b2; cases b2
    exact ha q j b3
  have hau : ∀ x ∈ mL M (A 204), ∀ q, fR M 22 x = some q → ∀ j, aI N q j = aI M q j := fun x hx q hq j => by
    obtain ⟨-, ⟨q', b2, b3, -⟩, -⟩ := u.2.2.2 x hx
    rw [hq] at b2; cases b2
    exact ha q j b3
  refine ⟨hS_of s p, hG_of g p l0 hag (f _ (by decide)) (f _ (by decide)), hU_of u p l4 hau ⟨f _ (by decide), f _ (by decide), f _ (by decide), f _ (by decide), f _ (by decide), f _ (by decide)⟩, hY_of y s g u p l0 l4 (fun j => ha _ j s.2.2.2.1), hC_of c s p l1 l0 ⟨f _ (by decide), f _ (by decide), f _ (by decide), f _ (by decide), f _ (by decide), f _ (by decide)⟩, hO_of o p l5 l4 (f _ (by decide)), hL_of l p l2 l0 (f _ (by decide)) ⟨f _ (by decide), f _ (by decide), f _ (by decide), f _ (by decide), f _ (by decide), f _ (by decide)⟩, hR_of r l p l2 l3 (f _ (by decide)), hT_of t p l6 l4 ⟨f _ (by decide), f _ (by decide), f _ (by decide)⟩, hZ_of z p l7, nStem_of n1 s l u t p l2 l4 l6 hau ⟨f _ (by decide), f _ (by decide), f _ (by decide)⟩, nPail_of n2 s l u p l2 l4 ⟨f _ (by decide), f _ (by decide), f _ (by decide)⟩, nCoin_of n3 s g u p l0 l4 ⟨f _ (by decide), f _ (by decide), f _ (by decide)⟩, nSold_of n4 s g p l0 ⟨f _ (by decide), f _ (by decide)⟩, nMisc_of n5 s p ⟨f _ (by decide), f _ (by decide), f _ (by decide)⟩⟩
/-- a run's own fields -/
theorem hI_off {N : kx_M} (h : hI m A cut bound K H e M) (p : pOff M N) : hI m A cut bound K H e N := hI_free h (pAg_off p) (fun i _ _ => by rw [p.1.2.1]) (fun x j _ => by rw [p.1.2.2.2.1]) (fun i hi => by
  simp only [List.mem_cons, List.not_mem_nil, or_false] at hi
  unfold rn
  omega)
theorem aI_all {M N : kx_M} (h : aI N = aI M) {l : List Nat} {f : Nat} : ∀ g ∈ l, ∀ q, fR M f g = some q → ∀ j, aI N q j = aI M q j := fun _ _ _ _ _ => by rw [h]
theorem hI_lamps (h : hI m A cut bound K H e M) {g : Nat} {x : Int32} (hx : 0 ≤ iv x ∧ iv x ≤ 3) : hI m A cut bound K H e (sI M 102 g x) := by
  obtain ⟨s, hg, u, y, c, o, l, r, t, z, n1, n2, n3, n4, n5⟩ := h
  have p := pAg_sI M 102 g x
  refine ⟨hS_of s p, ⟨hg.1, hg.2.1, fun b hb => ?_⟩, hU_of u p rfl (aI_all rfl) (by simp), hY_of y s hg u p rfl rfl (fun _ => rfl), hC_of c s p rfl rfl (by simp), hO_of o p rfl rfl (by simp), hL_of l p rfl rfl (by simp) (by simp), hR_of r l p rfl rfl (by simp), hT_of t p rfl rfl (by simp), hZ_of z p rfl, nStem_of n1 s l u t p rfl rfl rfl (aI_all rfl) (by simp), nPail_of n2 s l u p rfl rfl (by simp), nCoin_of n3 s hg u p rfl rfl (by simp), nSold_of n4 s hg p rfl (by simp), nMisc_of n5 s p (by simp)⟩
  obtain ⟨a1, a2, a3, a4, a5, a6⟩ := hg.2.2 b hb
  refine ⟨a1, a2, ?_, ?_, by rw [fI_sI_ne _ _ _ _ _ _ (by decide)]; exact a5, by rw [fI_sI_ne _ _ _ _ _ _ (by decide)]; exact a6⟩
  · rw [fI_set]; split
    · exact hx.1
    · exact a3
  · rw [fI_set]; split
    · exact hx.2
    · exact a4
theorem hI_leave (h : hI m A cut bound K H e M) {b : Nat} {x : Int32} (hx : -1 ≤ iv x ∧ iv x ≤ 9999) : hI m A cut bound K H e (sI M 25 b x) := by
  obtain ⟨s, hg, u, y, c, o, l, r, t, z, n1, n2, n3, n4, n5⟩ := h
  have p := pAg_sI M 25 b x
  have hu' : hU A (sI M 25 b x) := by
    refine ⟨u.1, u.2.1, fun i b' hb => by rw [fI_sI_ne _ _ _ _ _ _ (by decide)]; exact u.2.2.1 i b' hb, fun b' hb => ?_⟩
    obtain ⟨a1, a2, a3, a4, a5, a6⟩ := u.2.2.2 b' hb
    refine ⟨a1, a2, by rw [fI_sI_ne _ _ _ _ _ _ (by decide)]; exact a3, by rw [fI_sI_ne _ _ _ _ _ _ (by decide)]; exact a4, ?_, by rw [fI_sI_ne _ _ _ _ _ _ (by decide), fI_sI_ne _ _ _ _ _ _ (by decide)]; exact a6⟩
    rw [fI_set]
    split
    · exact hx
    · exact a5
  exact ⟨hS_of s p, hG_of hg p rfl (aI_all rfl) (by simp) (by simp), hu', hY_of y s hg u p rfl rfl (fun _ => rfl), hC_of c s p rfl rfl (by simp), hO_of o p rfl rfl (by simp), hL_of l p rfl rfl (by simp) (by simp), hR_of r l p rfl rfl (by simp), hT_of t p rfl rfl (by simp), hZ_of z p rfl, nStem_of n1 s l u t p rfl rfl rfl (aI_all rfl) (by simp), nPail_of n2 s l u p rfl rfl (by simp), nCoin_of n3 s hg u p rfl rfl (by simp), nSold_of n4 s hg p rfl (by simp), nMisc_of n5 s p (by simp)⟩
theorem hI_even (h : hI m A cut bound K H e M) {b : Nat} {x : Int32} (hx : 0 ≤ iv x ∧ iv x ≤ 9) : hI m A cut bound K H e (sI M 24 b x) := by
  obtain ⟨s, hg, u, y, c, o, l, r, t, z, n1, n2, n3, n4, n5⟩ := h
  have p := pAg_sI M 24 b x
  have hu' : hU A (sI M 24 b x) := by
    refine ⟨u.1, u.2.1, fun i b' hb => by rw [fI_sI_ne _ _ _ _ _ _ (by decide)]; exact u.2.2.1 i b' hb, fun b' hb => ?_⟩
    obtain ⟨a1, a2, a3, a4, a5, a6⟩ := u.2.2.2 b' hb
    refine ⟨a1, a2, by rw [fI_sI_ne _ _ _ _ _ _ (by decide)]; exact a3, ?_, by rw [fI_sI_ne _ _ _ _ _ _ (by decide)]; exact a5, by rw [fI_sI_ne _ _ _ _ _ _ (by decide), fI_sI_ne _ _ _ _ _ _ (by decide)]; exact a6⟩
    rw [fI_set]
    split
    · exact hx
    · exact a4
  exact ⟨hS_of s p, hG_of hg p rfl (aI_all rfl) (by simp) (by simp), hu', hY_of y s hg u p rfl rfl (fun _ => rfl), hC_of c s p rfl rfl (by simp), hO_of o p rfl rfl (by simp), hL_of l p rfl rfl (by simp) (by simp), hR_of r l p rfl rfl (by simp), hT_of t p rfl rfl (by simp), hZ_of z p rfl, nStem_of n1 s l u t p rfl rfl rfl (aI_all rfl) (by simp), nPail_of n2 s l u p rfl rfl (by simp), nCoin_of n3 s hg u p rfl rfl (by simp), nSold_of n4 s hg p rfl (by simp), nMisc_of n5 s p (by simp)⟩
theorem hI_mark (h : hI m A cut bound K H e M) {g : Nat} {x : Int32} (hx : 0 ≤ iv x ∧ iv x ≤ 100) : hI m A cut bound K H e (sI M 103 g x) := by
  obtain ⟨s, hg, u, y, c, o, l, r, t, z, n1, n2, n3, n4, n5⟩ := h
  have p := pAg_sI M 103 g x
  refine ⟨hS_of s p, ⟨hg.1, hg.2.1, fun b hb => ?_⟩, hU_of u p rfl (aI_all rfl) (by simp), hY_of y s hg u p rfl rfl (fun _ => rfl), hC_of c s p rfl rfl (by simp), hO_of o p rfl rfl (by simp), hL_of l p rfl rfl (by simp) (by simp), hR_of r l p rfl rfl (by simp), hT_of t p rfl rfl (by simp), hZ_of z p rfl, nStem_of n1 s l u t p rfl rfl rfl (aI_all rfl) (by simp), nPail_of n2 s l u p rfl rfl (by simp), nCoin_of n3 s hg u p rfl rfl (by simp), nSold_of n4 s hg p rfl (by simp), nMisc_of n5 s p (by simp)⟩
  obtain ⟨a1, a2, a3, a4, a5, a6⟩ := hg.2.2 b hb
  refine ⟨a1, a2, by rw [fI_sI_ne _ _ _ _ _ _ (by decide)]; exact a3, by rw [fI_sI_ne _ _ _ _ _ _ (by decide)]; exact a4, ?_, ?_⟩
  · rw [fI_set]; split
    · exact hx.1
    · exact a5
  · rw [fI_set]; split
    · exact hx.2
    · exact a6
/-- told, minimum and other fields of no part -/
theorem hI_set (h : hI m A cut bound K H e M) {i a : Nat} {x : Int32} (hi : ∀ j ∈ [102, 103, 20, 21, 24, 25, 23, 26, 81, 82, 84, 85, 86, 210, 145, 120, 122, 123, 125, 126, 127, 129, 181, 182, 183, 215, 212, 214, 101, 104, 216, 211, 213], j ≠ i) : hI m A cut bound K H e (sI M i a x) := hI_free h (pAg_sI M i a x) (fun _ _ _ => rfl) (fun _ _ _ => rfl) hi
theorem hI_inspect (h : hI m A cut bound K H e M) {x g : Nat} (hg : g ∈ mL M (A 200)) : hI m A cut bound K H e (eInspect M x g) := by
  obtain ⟨-, -, -, -, g1, g2⟩ := h.2.1.2.2 g hg
  unfold eInspect
  split
  · refine hI_mark h ?_
    have e1 : iv (fI M 103 g + 2) = iv (fI M 103 g) + 2 := by rw [iv_add (by rw [iv_2]; omega) (by rw [iv_2]; omega), iv_2]
    rw [iv_vMin, e1, iv_100]
    split <;> omega
  · refine hI_set (hI_mark h ?_) (by decide)
    have e1 : iv (fI M 103 g - 10) = iv (fI M 103 g) - 10 := by rw [iv_sub (by rw [iv_10]; omega) (by rw [iv_10]; omega), iv_10]
    rw [iv_vMax, e1, iv_0]
    split <;> omega
/-- buckets brought back: one of a buyer's -/
theorem hI_back (h : hI m A cut bound K H e M) {b : Nat} (hb : b ∈ mL M (A 204)) (hx : 1 ≤ iv (fI M 26 b)) : hI m A cut bound K H e (eBack M m b 1) := by
  obtain ⟨s, hg, u, y, c, o, l, r, t, z, n1, n2, n3, n4, n5⟩ := h
  have p : pAg (fun i => ((i = 26 ∨ i = 212) ∨ i = 23) ∨ i = 214) M (eBack M m b 1) := by
    unfold eBack
    exact (((pAg_sI M _ _ _).tr (pAg_sI _ _ _ _)).tr (pAg_sI _ _ _ _)).tr (pAg_sI _ _ _ _)
  have v26 : ∀ x, fI (eBack M m b 1) 26 x = if x = b then fI M 26 b - 1 else fI M 26 x := fun x => by
    unfold eBack; simp only [fI_set, Nat.reduceEqDiff, false_and, if_false, true_and]
  have v23 : ∀ x, fI (eBack M m b 1) 23 x = if x = b then fI M 23 b + 1 * 2 else fI M 23 x := fun x => by
    unfold eBack; simp only [fI_set, Nat.reduceEqDiff, false_and, if_false, true_and]
  have v212 : fI (eBack M m b 1) 212 m = fI M 212 m + 1 := by
    unfold eBack; simp only [fI_set, Nat.reduceEqDiff, false_and, if_false, true_and, if_true, and_self]
  have v214 : fI (eBack M m b 1) 214 m = fI M 214 m - 1 * 2 := by
    unfold eBack; simp only [fI_set, Nat.reduceEqDiff, false_and, if_false, true_and, if_true, and_self]
  have e2 : (1 : Int32) * 2 = 2 := by decide
  rw [e2] at v23 v214
  have hu' : hU A (eBack M m b 1) := by
    refine ⟨u.1, u.2.1, fun i b' hb' => ?_, fun b' hb' => ?_⟩
    · rw [(p b' (by rw [(u.2.2.2 b' (List.mem_of_getElem? hb')).1]; decide)).2.1 20 (by simp)]
      exact u.2.2.1 i b' hb'
    · obtain ⟨a1, a2, a3, a4, a5, a6, a7, a8⟩ := u.2.2.2 b' hb'
      have ee := (p b' (by omega)).2.1
      refine ⟨a1, a2, by rw [ee 21 (by simp)]; exact a3, by rw [ee 24 (by simp)]; exact a4, by rw [ee 25 (by simp)]; exact a5, ?_⟩
      rw [v23, v26]
      by_cases hbb : b' = b
      · subst hbb
        rw [if_pos rfl, if_pos rfl]
        have f1 : iv (fI M 23 b' + 2) = iv (fI M 23 b') + 2 := by rw [iv_add (by rw [iv_2]; omega) (by rw [iv_2]; omega), iv_2]
        have f2 : iv (fI M 26 b' - 1) = iv (fI M 26 b') - 1 := by rw [iv_sub (by rw [iv_1]; omega) (by rw [iv_1]; omega), iv_1]
        rw [f1, f2]
        omega
      · rw [if_neg hbb, if_neg hbb]
        exact ⟨a6, a7, a8⟩
  refine ⟨hS_of s p, hG_of hg p rfl (aI_all rfl) (by simp) (by simp), hu', hY_of y s hg u p rfl rfl (fun _ => rfl), hC_of c s p rfl rfl (by simp), hO_of o p rfl rfl (by simp), hL_of l p rfl rfl (by simp) (by simp), hR_of r l p rfl rfl (by simp), hT_of t p rfl rfl (by simp), hZ_of z p rfl, nStem_of n1 s l u t p rfl rfl rfl (aI_all rfl) (by simp), ?_, ?_, nSold_of n4 s hg p rfl (by simp), nMisc_of n5 s p (by simp)⟩
  · have e1 : sm (fI (eBack M m b 1) 127) (mL M (A 202)) = sm (fI M 127) (mL M (A 202)) := sm_congr _ (fun x hx => (p x (by rw [(l.2.2.2 x hx).1]; decide)).2.1 _ (by simp))
    have e3 : sm (fI (eBack M m b 1) 26) (mL M (A 204)) = sm (fI M 26) (mL M (A 204)) + (fI (eBack M m b 1) 26 b - fI M 26 b) := sm_upd _ u.1 hb (fun x _ hx => by rw [v26, if_neg hx])
    rw [v26, if_pos rfl] at e3
    unfold nPail at n2 ⊢
    show fI (eBack M m b 1) 212 m + sm (fI (eBack M m b 1) 127) (mL M (A 202)) + sm (fI (eBack M m b 1) 26) (mL M (A 204)) = 60
    rw [e1, e3, v212]
    generalize sm (fI M 127) (mL M (A 202)) = a1 at *
    generalize sm (fI M 26) (mL M (A 204)) = a2 at *
    generalize fI M 26 b = a3 at *
    generalize fI M 212 m = a4 at *
    clear e1 e3 v26 v23 v212 v214 hu' p
    grind
  · have e1 : sm (fI (eBack M m b 1) 101) (mL M (A 200)) = sm (fI M 101) (mL M (A 200)) := sm_congr _ (fun x hx => (p x (by rw [(hg.2.2 x hx).1]; decide)).2.1 _ (by simp))
    have e3 : sm (fI (eBack M m b 1) 23) (mL M (A 204)) = sm (fI M 23) (mL M (A 204)) + (fI (eBack M m b 1) 23 b - fI M 23 b) := sm_upd _ u.1 hb (fun x _ hx => by rw [v23, if_neg hx])
    rw [v23, if_pos rfl] at e3
    unfold nCoin at n3 ⊢
    show fI (eBack M m b 1) 214 m + sm (fI (eBack M m b 1) 23) (mL M (A 204)) + sm (fI (eBack M m b 1) 101) (mL M (A 200)) = K
    rw [e1, e3, v214]
    generalize sm (fI M 101) (mL M (A 200)) = a1 at *
    generalize sm (fI M 23) (mL M (A 204)) = a2 at *
    generalize fI M 23 b = a3 at *
    generalize fI M 214 m = a4 at *
    clear e1 e3 v26 v23 v212 v214 hu' p
    grind
end OP
