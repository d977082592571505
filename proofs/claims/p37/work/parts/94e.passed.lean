section LP
variable {m : Nat} {A : Nat → Nat} {cut bound : Int} {K : Int32} {H : Int} {M : kx_M}
theorem hI_pHour (h : hI m A cut bound K H 0 M) : pHour M m := by
  have s := h.1
  have hr := rail_len h
  refine ⟨⟨s.1, A 200, s.2.1 200 (by decide) (by decide), s.2.2.1 200 (by decide) (by decide), by have := h.2.1.2.1; omega, fun g hg => ?_⟩, ⟨s.1, A 201, s.2.1 201 (by decide) (by decide), s.2.2.1 201 (by decide) (by decide), by have := h.2.2.2.2.1.2.1; omega, fun c hc => ?_⟩, ⟨s.1, A 202, s.2.1 202 (by decide) (by decide), s.2.2.1 202 (by decide) (by decide), by have := h.2.2.2.2.2.2.1.2.1; omega, fun x hx => (h.2.2.2.2.2.2.1.2.2.2 x hx).1⟩, ⟨s.1, A 206, s.2.1 206 (by decide) (by decide), s.2.2.1 206 (by decide) (by decide), by omega, fun q hq => ?_⟩, h.2.2.2.2.2.2.2.2.2.2.2.2.2.2.2.2⟩
  · obtain ⟨a, ⟨q, b, c, -⟩, -⟩ := h.2.1.2.2 g hg
    exact ⟨a, q, b, c⟩
  · obtain ⟨a, ⟨k, g, d1, d2, d3⟩, -⟩ := h.2.2.2.2.1.2.2 c hc
    exact ⟨a, g, d3, (h.2.1.2.2 g (List.mem_of_getElem? d1)).1⟩
  · obtain ⟨a, ⟨b, b1, b2⟩, -⟩ := h.2.2.2.2.2.2.2.2.1 q hq
    obtain ⟨c, ⟨x, d1, d2, -⟩, -⟩ := h.2.2.1.2.2.2 b b1
    exact ⟨a, b, b2, c, x, d1, d2⟩
/-- the same objects, references, lengths; int arrays stay -/
def qA (M N : kx_M) : Prop := kd N = kd M ∧ fR N = fR M ∧ ln N = ln M ∧ ∀ x j, kd M x = 20 → aI N x j = aI M x j
theorem qA.rfl {M : kx_M} : qA M M := ⟨Eq.refl _, Eq.refl _, Eq.refl _, fun _ _ _ => Eq.refl _⟩
theorem qA.tr {M N P : kx_M} (h : qA M N) (g : qA N P) : qA M P := ⟨g.1.trans h.1, g.2.1.trans h.2.1, g.2.2.1.trans h.2.2.1, fun x j hx => (g.2.2.2 x j (by rw [h.1]; exact hx)).trans (h.2.2.2 x j hx)⟩
theorem qA.ag {M N : kx_M} (h1 : kd N = kd M) (h2 : fR N = fR M) (h3 : ln N = ln M) (h4 : aI N = aI M) : qA M N := ⟨h1, h2, h3, fun x j _ => by rw [h4]⟩
theorem ln_eGrow (M : kx_M) (c : Nat) (x : Int32) : ln (eGrow M c x) = ln M := by unfold eGrow; split <;> simp only [ln_sI]
theorem qA_sA {M : kx_M} {q i : Nat} {v : Int32} (h : kd M q ≠ 20) : qA M (sA M q i v) := ⟨kd_sA _ _ _ _, fR_sA _ _ _ _, ln_sA _ _ _ _, fun x j hx => aI_sA_ne _ _ _ _ _ _ (fun z => h (by rw [← z.1]; exact hx))⟩
theorem qA_put {M : kx_M} {q : Nat} {c v : Int32} (h : kd M q ≠ 20) : qA M (ePut M q c v) := by
  unfold ePut
  split
  · exact qA_sA h
  · exact qA.rfl
theorem qA_fold {f : kx_M → Nat → kx_M} (hf : ∀ M x, qA M (f M x)) (l : List Nat) (M : kx_M) : qA M (l.foldl f M) := foldl_keep (P := qA M) (f := f) (S := l) (fun N x _ hN => hN.tr (hf N x)) l M (fun _ hx => hx) qA.rfl
theorem qA_hour {e : Nat} (h : hI m A cut bound K H e M) : qA M (eHour m M) := by
  have r0 := hS_rf h.1 (i := 200) (by decide) (by decide)
  unfold eHour
  show qA M (List.foldl eLoseT (List.foldl eLose (List.foldl ePay (List.foldl (eGrowC m) (if _ then _ else _) _) _) _) _)
  refine qA.tr ?_ (qA_fold (fun N x => by unfold eLoseT; exact qA.ag (kd_sI _ _ _ _) (fR_sI _ _ _ _) (ln_sI _ _ _ _) (aI_sI _ _ _ _)) _ _)
  refine qA.tr ?_ (qA_fold (fun N x => by
    unfold eLose
    split
    · exact qA.rfl
    · exact qA.ag (kd_sI _ _ _ _) (fR_sI _ _ _ _) (ln_sI _ _ _ _) (aI_sI _ _ _ _)) _ _)
  refine qA.tr ?_ (qA_fold (fun N x => by unfold ePay; exact qA.ag (kd_sI _ _ _ _) (fR_sI _ _ _ _) (ln_sI _ _ _ _) (aI_sI _ _ _ _)) _ _)
  refine qA.tr ?_ (qA_fold (fun N x => by unfold eGrowC; exact qA.ag (kd_eGrow _ _ _) (fR_eGrow _ _ _) (ln_eGrow _ _ _) (aI_eGrow _ _ _)) _ _)
  have p1 : qA M (sI M 210 m (fI M 210 m + 1)) := qA.ag (kd_sI _ _ _ _) (fR_sI _ _ _ _) (ln_sI _ _ _ _) (aI_sI _ _ _ _)
  split
  · rw [r0]
    refine p1.tr ?_
    refine foldl_keep (P := qA (sI M 210 m (fI M 210 m + 1))) (f := eDay) (S := mL M (A 200)) (fun N x hx hN => hN.tr ?_) (mL M (A 200)) _ (fun _ hx => hx) qA.rfl
    obtain ⟨-, ⟨q, b2, b3, -⟩, -⟩ := h.2.1.2.2 x hx
    have hq : rf N 100 x = q := by unfold rf; rw [hN.2.1, fR_sI, b2]; rfl
    have hk : kd N q ≠ 20 := by rw [hN.1, kd_sI, b3]; decide
    unfold eDay
    rw [hq]
    exact ((qA_sA hk).tr (qA_sA (by rw [kd_sA]; exact hk))).tr (qA_sA (by rw [kd_sA, kd_sA]; exact hk))
  · exact p1
theorem qA_rail1 {e : Nat} (h : hI m A cut bound K H e M) (hz : (mL M (A 206)).length ≠ 0) : qA M (eRail1 m M) := by
  have r6 := hS_rf h.1 (i := 206) (by decide) (by decide)
  obtain ⟨q, hq⟩ : ∃ q, (mL M (A 206))[vNr M (mL M (A 206))]? = some q := ⟨_, List.getElem?_eq_getElem (vNr_lt M hz)⟩
  obtain ⟨q1, ⟨b, q2, q3⟩, -⟩ := h.2.2.2.2.2.2.2.2.1 q (List.mem_of_getElem? hq)
  have hrb : rf M 180 q = b := by unfold rf; rw [q3]; rfl
  obtain ⟨-, ⟨sk, u2, u3, -⟩, -⟩ := h.2.2.1.2.2.2 b q2
  have hrs : rf M 22 b = sk := by unfold rf; rw [u2]; rfl
  unfold eRail1
  rw [r6, hq]
  show qA M (eUnload (sL M (A 206) _) m q)
  generalize (mL M (A 206)).eraseIdx (vNr M (mL M (A 206))) = l
  have p1 : qA M (sL M (A 206) l) := qA.ag (kd_sL _ _ _) (fR_sL _ _ _) (ln_sL _ _ _) (aI_sL _ _ _)
  refine p1.tr ?_
  have e1 : rf (sL M (A 206) l) 180 q = b := by unfold rf; rw [fR_sL, q3]; rfl
  have e2 : rf (sL M (A 206) l) 22 b = sk := by unfold rf; rw [fR_sL, u2]; rfl
  have hk : kd (sL M (A 206) l) sk ≠ 20 := by rw [kd_sL, u3]; decide
  unfold eUnload
  rw [e1, e2]
  split
  · exact qA_put hk
  · split
    · exact qA_put hk
    · exact qA.ag (kd_sI _ _ _ _) (fR_sI _ _ _ _) (ln_sI _ _ _ _) (aI_sI _ _ _ _)
theorem qA_railN {e : Nat} (M0 : kx_M) (hr0 : rf M0 206 m = A 206) : ∀ (n : Nat) (M : kx_M) (x : Int32), hI m A cut bound K H e M → qA M (eRailN m n M0 (M, x)).1 := by
  intro n
  induction n with
  | zero => intro M x h; exact qA.rfl
  | succ n ih =>
    intro M x h
    unfold eRailN
    rw [hr0]
    split
    · exact qA.rfl
    · rename_i hz
      exact (qA_rail1 h hz).tr (ih (eRail1 m M) (x + 1) (hI_rail1 h hz))
theorem hours_more {e : Nat} : ∀ (n : Nat) (M : kx_M) (x K : Int32) (H : Int), hI m A cut bound K H e M → H + (n : Int) ≤ 10000 → qA M (eHours m n (M, x)).1 ∧ ∀ i, 200 ≤ i → i ≤ 207 → i ≠ 206 → mL (eHours m n (M, x)).1 (A i) = mL M (A i) := by
  intro n
  induction n with
  | zero => intro M x K H h hH; exact ⟨qA.rfl, fun _ _ _ _ => rfl⟩
  | succ n ih =>
    intro M x K H h hH
    have hH1 : H ≤ 10000 := by omega
    have r6 : rf (eHour m M) 206 m = A 206 := by unfold rf; rw [fR_eHour, h.1.2.1 206 (by decide) (by decide)]; rfl
    have hh := hI_hour h hH1
    have h1 := (hI_railN (eHour m M) r6 2 (eHour m M) 0 hh).1
    have q1 := (qA_hour h).tr (qA_railN (eHour m M) r6 2 (eHour m M) 0 hh)
    have m1 : ∀ i, 200 ≤ i → i ≤ 207 → i ≠ 206 → mL (eRailN m 2 (eHour m M) (eHour m M, 0)).1 (A i) = mL M (A i) := fun i i1 i2 i3 => by rw [railN_mL i1 i2 i3 h.1, mL_eHour]
    have hE : eHours m (n + 1) (M, x) = eHours m n ((eRailN m 2 (eHour m M) (eHour m M, 0)).1, x + (eRailN m 2 (eHour m M) (eHour m M, 0)).2) := by exact (Eq.refl _)
    rw [hE]
    generalize eRailN m 2 (eHour m M) (eHour m M, 0) = R at *
    obtain ⟨a, b⟩ := ih R.1 (x + R.2) _ _ h1 (by omega)
    exact ⟨q1.tr a, fun i i1 i2 i3 => (b i i1 i2 i3).trans (m1 i i1 i2 i3)⟩
/-- an array read in -/
def eRd (N : kx_M) (a : Nat) (f : Nat → Int32) : Nat → kx_M
  | 0 => N
  | k + 1 => sA (eRd N a f k) a k (f k)
theorem eRd_o (N : kx_M) (a : Nat) (f : Nat → Int32) (k : Nat) : kd (eRd N a f k) = kd N ∧ fI (eRd N a f k) = fI N ∧ fR (eRd N a f k) = fR N ∧ mL (eRd N a f k) = mL N ∧ ln (eRd N a f k) = ln N ∧ (∀ x j, x ≠ a → aI (eRd N a f k) x j = aI N x j) ∧ ∀ j, j < k → aI (eRd N a f k) a j = f j := by
  induction k with
  | zero => exact ⟨rfl, rfl, rfl, rfl, rfl, fun _ _ _ => rfl, fun j hj => absurd hj (Nat.not_lt_zero j)⟩
  | succ k ih =>
    obtain ⟨a1, a2, a3, a4, a5, a6, a7⟩ := ih
    refine ⟨(kd_sA _ _ _ _).trans a1, (fI_sA _ _ _ _).trans a2, (fR_sA _ _ _ _).trans a3, (mL_sA _ _ _ _).trans a4, (ln_sA _ _ _ _).trans a5, fun x j hx => (aI_sA_ne _ _ _ _ _ _ (fun z => hx z.1)).trans (a6 x j hx), fun j hj => ?_⟩
    show aI (sA _ a k (f k)) a j = f j
    by_cases hjk : j = k
    · rw [hjk, aI_sA_eq]
    · rw [aI_sA_nj _ _ _ _ _ hjk]
      exact a7 j (by omega)
end LP
