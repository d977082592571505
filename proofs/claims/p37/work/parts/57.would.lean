section WD
variable {r : Nat} {l : List Nat}
theorem vNext_same {W N : kx_M} (hG : aG r l W N) (hb : hB r l W) (hm : fI N 64 r = fI W 64 r) : (∀ W2, vNext r l 5 W = (none, W2) → ∃ N2, vNext r l 5 N = (none, N2)) ∧ ∀ o W2, vNext r l 5 W = (some o, W2) → ∃ N2, vNext r l 5 N = (some o, N2) ∧ aG r l W2 N2 ∧ fI N2 68 r = fI W2 68 r ∧ fI N2 69 r = fI W2 69 r ∧ fI N2 64 r = fI W2 64 r ∧ hB r l W2 := by
  obtain ⟨g1, g2⟩ := vNext_min 5 W N hG hb (by rw [hm]; exact Int32.le_refl _)
  refine ⟨fun W2 h => ?_, fun o W2 h => ?_⟩
  · have e := g1 W2 h
    cases hv : vNext r l 5 N with
    | mk oo N2 =>
      rw [hv] at e
      cases e
      exact ⟨N2, rfl⟩
  · have h5 := (vNext_num hb h).2.2.2.2.2.1
    obtain ⟨N2, e1, e2, e3, e4, e5, e6⟩ := g2 o W2 h (by rw [hm]; exact h5)
    exact ⟨N2, e1, e2, e3, e4, by rw [e5, e6, hm], (vNext_aft hb h).1⟩
end WD
/-- the first price, the lowest price -/
def vFP (M : kx_M) (m t : Nat) : Int32 := match (vTake1 M m (eAsk M m t)).1 with
  | none => -1
  | some _ => fI (vTake1 M m (eAsk M m t)).2 69 (rf M 209 m)
def vLP (M : kx_M) (m t : Nat) : Int32 := (vLow M m 200 99 (eAsk M m t)).1
/-- halls that answer alike of what would be of t -/
def aW (M N : kx_M) (m t : Nat) : Prop := rf N 209 m = rf M 209 m ∧ rf N 204 m = rf M 204 m ∧ rf N 205 m = rf M 205 m ∧ fI N 126 t = fI M 126 t ∧ aH M N t (rf M 204 m) (rf M 205 m) ∧ pBnd M t (rf M 204 m) (rf M 205 m)
theorem aW.ask {M N : kx_M} {m t : Nat} (h : aW M N m t) : aG (rf M 209 m) (mL M (rf M 205 m)) (eAsk M m t) (eAsk N m t) ∧ hB (rf M 209 m) (mL M (rf M 205 m)) (eAsk M m t) ∧ fI (eAsk M m t) 64 (rf M 209 m) = 1 ∧ fI (eAsk N m t) 64 (rf M 209 m) = 1 := by
  obtain ⟨h1, h2, h3, h4, h5, h6⟩ := h
  unfold eAsk
  rw [h1, h2, h3]
  exact ⟨aG_begin h5 (by rw [h4]), hB_begin h6, fI_begin_run.2.2.2.2.1, fI_begin_run.2.2.2.2.1⟩
theorem aW.mL {M N : kx_M} {m t : Nat} (h : aW M N m t) : mL N (rf N 205 m) = mL M (rf M 205 m) := by
  rw [h.2.2.1]; exact h.2.2.2.2.1.2.2.1
theorem vFP_eq {M N : kx_M} {m t : Nat} (h : aW M N m t) : vFP N m t = vFP M m t := by
  obtain ⟨hG, hb, m1, m2⟩ := h.ask
  obtain ⟨g1, g2⟩ := vNext_same hG hb (by rw [m1, m2])
  unfold vFP vTake1
  rw [h.mL, h.1]
  cases hv : vNext (rf M 209 m) (mL M (rf M 205 m)) 5 (eAsk M m t) with
  | mk o W2 =>
    cases o with
    | none =>
      obtain ⟨N2, e⟩ := g1 W2 hv
      rw [e]
    | some o =>
      obtain ⟨N2, e, -, -, e69, -⟩ := g2 o W2 hv
      rw [e]
      exact e69
theorem vLow_same {M N : kx_M} {m r : Nat} {l : List Nat} (h1 : rf M 209 m = r) (h2 : mL M (rf M 205 m) = l) (h3 : rf N 209 m = r) (h4 : mL N (rf N 205 m) = l) : ∀ (n : Nat) (x : Int32) (W K : kx_M), aG r l W K → hB r l W → fI K 64 r = fI W 64 r → (vLow N m n x K).1 = (vLow M m n x W).1 := by
  intro n
  induction n with
  | zero => intro x W K _ _ _; exact (Eq.refl x)
  | succ n ih =>
    intro x W K hG hb hm
    obtain ⟨g1, g2⟩ := vNext_same hG hb hm
    have t1 : vTake1 M m W = vNext r l 5 W := by unfold vTake1; rw [h1, h2]
    have t2 : vTake1 N m K = vNext r l 5 K := by unfold vTake1; rw [h3, h4]
    cases hv : vNext r l 5 W with
    | mk o W2 =>
      cases o with
      | none =>
        obtain ⟨K2, e⟩ := g1 W2 hv
        have e1 : vLow M m (n + 1) x W = (x, W2) := by conv => lhs; unfold vLow
                                                       rw [t1, hv]
        have e2 : vLow N m (n + 1) x K = (x, K2) := by conv => lhs; unfold vLow
                                                       rw [t2, e]
        rw [e1, e2]
      | some o =>
        obtain ⟨K2, e, f1, -, f2, f3, f4⟩ := g2 o W2 hv
        have e1 : vLow M m (n + 1) x W = vLow M m n (vMin x (fI W2 69 r)) W2 := by conv => lhs; unfold vLow
                                                                                   rw [t1, hv, h1]
        have e2 : vLow N m (n + 1) x K = vLow N m n (vMin x (fI W2 69 r)) K2 := by conv => lhs; unfold vLow
                                                                                   rw [t2, e, h3, ← f2]
        rw [e1, e2]
        exact ih _ W2 K2 f1 f4 f3
theorem vLP_eq {M N : kx_M} {m t : Nat} (h : aW M N m t) : vLP N m t = vLP M m t := by
  obtain ⟨hG, hb, m1, m2⟩ := h.ask
  unfold vLP
  exact vLow_same rfl rfl h.1 h.mL 200 99 _ _ hG hb (by rw [m1, m2])
/-- a hall and one that is like it but for a run's own fields -/
theorem pOff.aW {M N : kx_M} {m t : Nat} (h : pOff M N) (hb : pBnd M t (rf M 204 m) (rf M 205 m)) : aW M N m t := by
  obtain ⟨⟨-, hL, hR, -⟩, hI⟩ := h
  have hr : ∀ i x, rf N i x = rf M i x := fun i x => by unfold rf; rw [hR]
  have e : ∀ i x, ¬ rn i → fI N i x = fI M i x := hI
  refine ⟨hr _ _, hr _ _, hr _ _, e _ _ (by unfold rn; omega), ⟨⟨e _ _ (by unfold rn; omega), e _ _ (by unfold rn; omega), e _ _ (by unfold rn; omega), e _ _ (by unfold rn; omega), by rw [hr]; exact e _ _ (by unfold rn; omega)⟩, by rw [hL], by rw [hL], fun o ho => ⟨by rw [hR], e _ _ (by unfold rn; omega), e _ _ (by unfold rn; omega), e _ _ (by unfold rn; omega), e _ _ (by unfold rn; omega), e _ _ (by unfold rn; omega), e _ _ (by unfold rn; omega), (hb.2.1 o ho).2.2⟩, fun b _ => ⟨e _ _ (by unfold rn; omega), e _ _ (by unfold rn; omega), e _ _ (by unfold rn; omega), e _ _ (by unfold rn; omega)⟩⟩, hb⟩
/-! THE CHECKSUM -/
def mx (d : Int64) (v : Int32) : Int64 := d * 31 + v.toInt64
def fo (f : Int32 → Int32) : Nat → Nat → Int64 → Int64
  | 0, _, d => d
  | n + 1, j, d => fo f n (j + 1) (mx d (f (nI j)))
def vGr1 (M : kx_M) (d : Int64) (g : Nat) : Int64 := fo (vGrower M g) 5 0 d
def vCr1 (M : kx_M) (m : Nat) (d : Int64) (c : Nat) : Int64 := mx (fo (vCrop M c) 6 0 d) (vReady M m c)
def vLo1 (M : kx_M) (m : Nat) (d : Int64) (x : Nat) : Int64 := mx (mx (fo (vLot M x) 10 0 d) (vFP M m x)) (vLP M m x)
def vBu1 (M : kx_M) (d : Int64) (b : Nat) : Int64 := fo (vBuyer M b) 9 0 d
def vOr1 (M : kx_M) (d : Int64) (o : Nat) : Int64 := mx d (fI M 146 o)
def vSa1 (M : kx_M) (d : Int64) (s : Nat) : Int64 := fo (vSale M s) 5 0 d
def vDGrow (M : kx_M) (m : Nat) (d : Int64) : Int64 := (mL M (rf M 201 m)).foldl (vCr1 M m) ((mL M (rf M 200 m)).foldl (vGr1 M) d)
def f2_X9_mixedWithGrowing (_ : kx_E) (av : List Value) (M : kx_M) : kx_F := match av with
  | [.ref m, .long d] => (pGros M m ∧ pCrops M m, [.long (vDGrow M m d)], M)
  | _ => (False, [], M)
def vDLots (M : kx_M) (m : Nat) (d : Int64) : Int64 := (mL M (rf M 202 m)).foldl (vLo1 M m) d
def vDTrade (M : kx_M) (m : Nat) (d : Int64) : Int64 := (mL M (rf M 207 m)).reverse.foldl (vSa1 M) ((mL M (rf M 205 m)).foldl (vOr1 M) ((mL M (rf M 204 m)).foldl (vBu1 M) d))
def pTrade (M : kx_M) (m : Nat) : Prop := kd M m = 11 ∧ (∃ t, fR M 204 m = some t ∧ kd M t = 1 ∧ (mL M t).length ≤ 1000 ∧ ∀ b ∈ mL M t, kd M b = 2 ∧ ∃ q, fR M 22 b = some q ∧ kd M q = 3) ∧ (∃ t, fR M 205 m = some t ∧ kd M t = 1 ∧ (mL M t).length ≤ 1000 ∧ ∀ o ∈ mL M t, kd M o = 8) ∧ ∃ t, fR M 207 m = some t ∧ kd M t = 1 ∧ (mL M t).length ≤ 1000 ∧ ∀ s ∈ mL M t, pSaleAt M s
def f2_X9_mixedWithTrade (_ : kx_E) (av : List Value) (M : kx_M) : kx_F := match av with
  | [.ref m, .long d] => (pTrade M m, [.long (vDTrade M m d)], M)
  | _ => (False, [], M)
def vDig (M : kx_M) (m : Nat) : Int64 := fo (fun c => vFew M m c 12) 3 0 (fo (vRow M m) 3 0 (vDTrade M m (vDLots M m (vDGrow M m (fo (vHall M m) 16 0 58185)))))
/-! HOURS -/
def f2_X9_passOneHour (_ : kx_E) (av : List Value) (M : kx_M) : kx_F := match av with
  | [.ref m] => (pHour M m, [.int (eRailN m 2 (eHour m M) (eHour m M, 0)).2], (eRailN m 2 (eHour m M) (eHour m M, 0)).1)
  | _ => (False, [], M)
def eHours (m : Nat) : Nat → kx_M × Int32 → kx_M × Int32
  | 0, s => s
  | n + 1, s => eHours m n ((eRailN m 2 (eHour m s.1) (eHour m s.1, 0)).1, s.2 + (eRailN m 2 (eHour m s.1) (eHour m s.1, 0)).2)
def f2_X9_pass (_ : kx_E) (av : List Value) (M : kx_M) : kx_F := match av with
  | [.ref m, .int h, .int lt] => (pHour M m ∧ 1 ≤ h ∧ h ≤ 48 ∧ 0 ≤ lt ∧ lt ≤ 9, [.int (eHours m h.toNatClampNeg (sI M 211 m lt, 0)).2], (eHours m h.toNatClampNeg (sI M 211 m lt, 0)).1)
  | _ => (False, [], M)
