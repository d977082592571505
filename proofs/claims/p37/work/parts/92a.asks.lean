theorem z_01 : ((0 : Int32) = 1) = False := by decide
theorem z_02 : ((0 : Int32) = 2) = False := by decide
theorem z_12 : ((1 : Int32) = 2) = False := by decide
theorem z_20 : ((2 : Int32) = 0) = False := by decide
theorem z_21 : ((2 : Int32) = 1) = False := by decide
/-! WHAT IS ASKED, in the hall -/
theorem vLot_0 (M : kx_M) (x : Nat) : vLot M x 0 = fI M 122 x := by unfold vLot; exact if_pos (by decide)
theorem vLot_2 (M : kx_M) (x : Nat) : vLot M x 2 = fI M 125 x := by unfold vLot; rw [if_neg (by decide), if_neg (by decide)]; exact if_pos (by decide)
theorem vLot_4 (M : kx_M) (x : Nat) : vLot M x 4 = fI M 126 x := by unfold vLot; rw [if_neg (by decide), if_neg (by decide), if_neg (by decide), if_neg (by decide)]; exact if_pos (by decide)
theorem vLot_5 (M : kx_M) (x : Nat) : vLot M x 5 = fI M 127 x := by unfold vLot; rw [if_neg (by decide), if_neg (by decide), if_neg (by decide), if_neg (by decide), if_neg (by decide)]; exact if_pos (by decide)
theorem vLot_7 (M : kx_M) (x : Nat) : vLot M x 7 = fI M 129 x := by unfold vLot; rw [if_neg (by decide), if_neg (by decide), if_neg (by decide), if_neg (by decide), if_neg (by decide), if_neg (by decide), if_neg (by decide)]; exact if_pos (by decide)
theorem vLot_8 (M : kx_M) (x : Nat) : vLot M x 8 = fI M 130 x := by unfold vLot; rw [if_neg (by decide), if_neg (by decide), if_neg (by decide), if_neg (by decide), if_neg (by decide), if_neg (by decide), if_neg (by decide), if_neg (by decide)]; exact if_pos (by decide)
theorem vLot_9 (M : kx_M) (x : Nat) : vLot M x 9 = fI M 131 x := by unfold vLot; rw [if_neg (by decide), if_neg (by decide), if_neg (by decide), if_neg (by decide), if_neg (by decide), if_neg (by decide), if_neg (by decide), if_neg (by decide)]; exact if_neg (by decide)
theorem vGro_0 (M : kx_M) (x : Nat) : vGrower M x 0 = fI M 101 x := by unfold vGrower; exact if_pos (by decide)
theorem vGro_1 (M : kx_M) (x : Nat) : vGrower M x 1 = fI M 102 x := by unfold vGrower; rw [if_neg (by decide)]; exact if_pos (by decide)
theorem vGro_2 (M : kx_M) (x : Nat) : vGrower M x 2 = fI M 103 x := by unfold vGrower; rw [if_neg (by decide), if_neg (by decide)]; exact if_pos (by decide)
theorem vGro_3 (M : kx_M) (x : Nat) : vGrower M x 3 = fI M 104 x := by unfold vGrower; rw [if_neg (by decide), if_neg (by decide), if_neg (by decide)]; exact if_pos (by decide)
theorem vGro_4 (M : kx_M) (x : Nat) : vGrower M x 4 = 0 + aI M (rf M 100 x) 0 + aI M (rf M 100 x) 1 + aI M (rf M 100 x) 2 := by unfold vGrower; rw [if_neg (by decide), if_neg (by decide), if_neg (by decide)]; exact if_neg (by decide)
theorem vBuy_0 (M : kx_M) (x : Nat) : vBuyer M x 0 = fI M 23 x := by unfold vBuyer; exact if_pos (by decide)
theorem vBuy_7 (M : kx_M) (x : Nat) : vBuyer M x 7 = fI M 26 x := by unfold vBuyer; rw [if_neg (by decide), if_neg (by decide), if_neg (by decide), if_neg (by decide)]; exact if_pos (by decide)
theorem vBuy_s (M : kx_M) (x : Nat) (w c : Int32) (hw : w ≠ 0 ∧ w ≠ 1 ∧ w ≠ 2 ∧ w ≠ 3 ∧ w ≠ 7 ∧ w ≠ 8) (hc : w - 4 = c) (hc2 : 0 ≤ c ∧ c < 3) : vBuyer M x w = aI M (rf M 22 x) c.toNatClampNeg := by
  obtain ⟨h0, h1, h2, h3, h4, h5⟩ := hw
  unfold vBuyer
  rw [if_neg h0, if_neg h1, if_neg h2, if_neg h3, if_neg h4, if_neg h5, hc]
  exact if_pos hc2
theorem vBuy_4 (M : kx_M) (x : Nat) : vBuyer M x 4 = aI M (rf M 22 x) 0 := vBuy_s M x 4 0 (by decide) (by decide) (by decide)
theorem vBuy_5 (M : kx_M) (x : Nat) : vBuyer M x 5 = aI M (rf M 22 x) 1 := vBuy_s M x 5 1 (by decide) (by decide) (by decide)
theorem vBuy_6 (M : kx_M) (x : Nat) : vBuyer M x 6 = aI M (rf M 22 x) 2 := vBuy_s M x 6 2 (by decide) (by decide) (by decide)
theorem vCro_2 (M : kx_M) (x : Nat) : vCrop M x 2 = fI M 83 x := by unfold vCrop; rw [if_neg (by decide), if_neg (by decide)]; exact if_pos (by decide)
theorem vCro_4 (M : kx_M) (x : Nat) : vCrop M x 4 = if fI M 85 x = 0 then 0 else 1 := by unfold vCrop; rw [if_neg (by decide), if_neg (by decide), if_neg (by decide), if_neg (by decide)]; exact if_pos (by decide)
section AK
variable {m : Nat} {A : Nat → Nat} {cut bound : Int} {K : Int32} {H : Int} {e : Nat} {M : kx_M}
theorem hS_rf (h : hS m A M) {i : Nat} (h1 : 200 ≤ i) (h2 : i ≤ 209) : rf M i m = A i := by unfold rf; rw [h.2.1 i h1 h2]; rfl
theorem vHal_0 (m : Nat) (M : kx_M) : vHall M m 0 = fI M 210 m := by unfold vHall; exact if_pos (by decide)
theorem vHal_3 (h : hS m A M) : vHall M m 3 = nI (mL M (A 202)).length := by
  unfold vHall vLen
  rw [if_neg (by decide), if_neg (by decide), if_neg (by decide), if_pos (by decide), hS_rf h (i := 202) (by decide) (by decide)]
  exact (Eq.refl _)
theorem vHal_6 (h : hS m A M) : vHall M m 6 = nI (mL M (A 203)).length := by
  unfold vHall vLen
  rw [if_neg (by decide), if_neg (by decide), if_neg (by decide), if_neg (by decide), if_neg (by decide), if_neg (by decide), if_pos (by decide), hS_rf h (i := 203) (by decide) (by decide)]
  exact (Eq.refl _)
theorem vHal_7 (h : hS m A M) : vHall M m 7 = nI (mL M (A 206)).length := by
  unfold vHall vLen
  rw [if_neg (by decide), if_neg (by decide), if_neg (by decide), if_neg (by decide), if_neg (by decide), if_neg (by decide), if_neg (by decide), if_pos (by decide), hS_rf h (i := 206) (by decide) (by decide)]
  exact (Eq.refl _)
theorem vHal_8 (m : Nat) (M : kx_M) : vHall M m 8 = fI M 212 m := by
  unfold vHall
  rw [if_neg (by decide), if_neg (by decide), if_neg (by decide), if_neg (by decide), if_neg (by decide), if_neg (by decide), if_neg (by decide), if_neg (by decide)]
  exact if_pos (by decide)
theorem vHal_9 (m : Nat) (M : kx_M) : vHall M m 9 = fI M 214 m := by
  unfold vHall
  rw [if_neg (by decide), if_neg (by decide), if_neg (by decide), if_neg (by decide), if_neg (by decide), if_neg (by decide), if_neg (by decide), if_neg (by decide), if_neg (by decide)]
  exact if_pos (by decide)
theorem vHal_10 (m : Nat) (M : kx_M) : vHall M m 10 = fI M 215 m := by
  unfold vHall
  rw [if_neg (by decide), if_neg (by decide), if_neg (by decide), if_neg (by decide), if_neg (by decide), if_neg (by decide), if_neg (by decide), if_neg (by decide), if_neg (by decide), if_neg (by decide)]
  exact if_pos (by decide)
theorem vHal_11 (m : Nat) (M : kx_M) : vHall M m 11 = fI M 216 m := by
  unfold vHall
  rw [if_neg (by decide), if_neg (by decide), if_neg (by decide), if_neg (by decide), if_neg (by decide), if_neg (by decide), if_neg (by decide), if_neg (by decide), if_neg (by decide), if_neg (by decide), if_neg (by decide)]
  exact if_pos (by decide)
theorem vHal_15 (m : Nat) (M : kx_M) : vHall M m 15 = vLeastR M m := by
  unfold vHall
  rw [if_neg (by decide), if_neg (by decide), if_neg (by decide), if_neg (by decide), if_neg (by decide), if_neg (by decide), if_neg (by decide), if_neg (by decide), if_neg (by decide), if_neg (by decide), if_neg (by decide), if_neg (by decide)]
  exact if_pos (by decide)
theorem hI_hall (h : hI m A cut bound K H e M) : pHall M m := by
  have s := h.1
  have hr := rail_len h
  have L : ∀ i, 200 ≤ i → i ≤ 207 → ∃ t, fR M i m = some t ∧ kd M t = 1 := fun i a b => ⟨A i, s.2.1 i a (by omega), s.2.2.1 i a b⟩
  exact ⟨s.1, L 200 (by decide) (by decide), L 201 (by decide) (by decide), L 202 (by decide) (by decide), L 203 (by decide) (by decide), L 204 (by decide) (by decide), L 205 (by decide) (by decide), ⟨A 206, s.2.1 206 (by decide) (by decide), s.2.2.1 206 (by decide) (by decide), by omega, fun q hq => (h.2.2.2.2.2.2.2.2.1 q hq).1⟩, A 208, s.2.1 208 (by decide) (by decide), s.2.2.2.1⟩
/-- the k-th of a list of the hall -/
theorem at_k (s : hS m A M) {f kv k x : Nat} (hf : 200 ≤ f ∧ f ≤ 207) (hk : (mL M (A f))[k]? = some x) (hl : (mL M (A f)).length ≤ 1000) (hx : kd M x = kv) : pAt M m f kv (nI k) ∧ el M f m (nI k) = x ∧ 0 ≤ nI k ∧ nI k < Int32.ofNat (mL M (A f)).length ∧ (mL M (A f))[(nI k).toNatClampNeg]? = some x := by
  have hlt : k < (mL M (A f)).length := (List.getElem?_eq_some_iff.mp hk).1
  have hc : (nI k).toNatClampNeg = k := nI_clamp (by omega)
  have h0 : 0 ≤ nI k := nI_pos' (by omega)
  have h1 : nI k < Int32.ofNat (mL M (A f)).length := nI_lt (b := (mL M (A f)).length) hlt (by omega)
  have hr : rf M f m = A f := hS_rf s hf.1 (by omega)
  refine ⟨⟨s.1, A f, x, s.2.1 f hf.1 (by omega), s.2.2.1 f hf.1 hf.2, h0, h1, by rw [hc]; exact hk, hx⟩, ?_, h0, h1, by rw [hc]; exact hk⟩
  unfold el
  rw [hr, hc, hk]
  rfl
theorem at_lot (h : hI m A cut bound K H e M) {k x : Nat} (hk : (mL M (A 202))[k]? = some x) : pAt M m 202 7 (nI k) ∧ el M 202 m (nI k) = x ∧ 0 ≤ nI k ∧ nI k < Int32.ofNat (mL M (A 202)).length ∧ (mL M (A 202))[(nI k).toNatClampNeg]? = some x := at_k h.1 (by decide) hk (by have := h.2.2.2.2.2.2.1.2.1; omega) (h.2.2.2.2.2.2.1.2.2.2 x (List.mem_of_getElem? hk)).1
theorem at_gro (h : hI m A cut bound K H e M) {k x : Nat} (hk : (mL M (A 200))[k]? = some x) : pAt M m 200 6 (nI k) ∧ el M 200 m (nI k) = x ∧ 0 ≤ nI k ∧ nI k < Int32.ofNat (mL M (A 200)).length ∧ (mL M (A 200))[(nI k).toNatClampNeg]? = some x := at_k h.1 (by decide) hk (by have := h.2.1.2.1; omega) (h.2.1.2.2 x (List.mem_of_getElem? hk)).1
theorem at_buy (h : hI m A cut bound K H e M) {k x : Nat} (hk : (mL M (A 204))[k]? = some x) : pAt M m 204 2 (nI k) ∧ el M 204 m (nI k) = x ∧ 0 ≤ nI k ∧ nI k < Int32.ofNat (mL M (A 204)).length ∧ (mL M (A 204))[(nI k).toNatClampNeg]? = some x := at_k h.1 (by decide) hk (by have := h.2.2.1.2.1; omega) (h.2.2.1.2.2.2 x (List.mem_of_getElem? hk)).1
theorem at_cro (h : hI m A cut bound K H e M) {k x : Nat} (hk : (mL M (A 201))[k]? = some x) : pAt M m 201 5 (nI k) ∧ el M 201 m (nI k) = x ∧ 0 ≤ nI k ∧ nI k < Int32.ofNat (mL M (A 201)).length ∧ (mL M (A 201))[(nI k).toNatClampNeg]? = some x := at_k h.1 (by decide) hk (by have := h.2.2.2.2.1.2.1; omega) (h.2.2.2.2.1.2.2 x (List.mem_of_getElem? hk)).1
theorem byc_gro (h : hI m A cut bound K H e M) {x : Nat} (hx : x ∈ mL M (A 200)) : pByc M 100 x ∧ ∃ q, fR M 100 x = some q ∧ kd M q = 3 ∧ rf M 100 x = q := by
  obtain ⟨-, ⟨q, b2, b3, -⟩, -⟩ := h.2.1.2.2 x hx
  exact ⟨⟨q, b2, b3⟩, q, b2, b3, by unfold rf; rw [b2]; rfl⟩
theorem byc_buy (h : hI m A cut bound K H e M) {x : Nat} (hx : x ∈ mL M (A 204)) : pByc M 22 x := by
  obtain ⟨-, ⟨q, b2, b3, -⟩, -⟩ := h.2.2.1.2.2.2 x hx
  exact ⟨q, b2, b3⟩
/-- a lot's grower, by its number too -/
theorem lot_gro (h : hI m A cut bound K H e M) {x : Nat} (hx : x ∈ mL M (A 202)) : ∃ k g, (mL M (A 200))[k]? = some g ∧ g ∈ mL M (A 200) ∧ fI M 122 x = nI k ∧ fR M 121 x = some g ∧ rf M 121 x = g := by
  obtain ⟨-, ⟨k, g, a, b, c⟩, -⟩ := h.2.2.2.2.2.2.1.2.2.2 x hx
  exact ⟨k, g, a, List.mem_of_getElem? a, b, c, by unfold rf; rw [c]; rfl⟩
theorem hI_run (h : hI m A cut bound K H e M) {t : Nat} (ht : t ∈ mL M (A 202)) : pRun M m t := by
  have s := h.1
  obtain ⟨t1, -⟩ := h.2.2.2.2.2.2.1.2.2.2 t ht
  obtain ⟨k, g, a, b, c, d, -⟩ := lot_gro h ht
  refine ⟨s.1, t1, A 209, A 204, A 205, g, s.2.1 209 (by decide) (by decide), s.2.2.2.2.1, s.2.1 204 (by decide) (by decide), s.2.2.1 204 (by decide) (by decide), s.2.1 205 (by decide) (by decide), s.2.2.1 205 (by decide) (by decide), d, (h.2.1.2.2 g b).1, by have := h.2.2.1.2.1; omega, by have := h.2.2.2.2.2.1.1; omega, fun x hx => (h.2.2.1.2.2.2 x hx).1, fun o ho => ?_⟩
  obtain ⟨a1, a2, a3, a4⟩ := ord_buyer h ho
  exact ⟨a3, _, a2, a4⟩
/-- what a grower brought today, all told -/
theorem bro_sum (h : hI m A cut bound K H e M) {g q : Nat} (hg : g ∈ mL M (A 200)) (hq : fR M 100 g = some q) : iv (0 + aI M q 0 + aI M q 1 + aI M q 2) = iv (aI M q 0) + iv (aI M q 1) + iv (aI M q 2) ∧ ∀ c, 0 ≤ iv c → iv c ≤ 2 → iv (bcv M q c) ≤ iv (aI M q 0) + iv (aI M q 1) + iv (aI M q 2) := by
  obtain ⟨-, ⟨q', b2, b3, b4⟩, -⟩ := h.2.1.2.2 g hg
  rw [hq] at b2; cases b2
  have c0 := b4 0 (by decide)
  have c1 := b4 1 (by decide)
  have c2 := b4 2 (by decide)
  have e1 : iv (aI M q 0 + aI M q 1) = iv (aI M q 0) + iv (aI M q 1) := iv_add (by omega) (by omega)
  refine ⟨by rw [Int32.zero_add, iv_add (by rw [e1]; omega) (by rw [e1]; omega), e1], fun c h1 h2 => ?_⟩
  rw [bcv_at ⟨h1, h2⟩]
  exact (stk_bd _ (bcv_in ⟨h1, h2⟩).2 (aI M q) (fun j hj => (b4 j hj).1)).2
end AK
