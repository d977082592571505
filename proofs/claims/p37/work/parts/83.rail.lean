section RL
variable {A : Nat → Nat} {cut bound : Int} {K : Int32} {H : Int} {e : Nat} {M : kx_M} {m : Nat}
theorem eraseIdx_split {l : List Nat} : ∀ {k q : Nat}, l[k]? = some q → ∃ l1 l2, l = l1 ++ q :: l2 ∧ l.eraseIdx k = l1 ++ l2 := by
  induction l with
  | nil => intro k q h; simp at h
  | cons x l ih =>
    intro k q h
    cases k with
    | zero =>
      cases h
      exact ⟨[], l, rfl, rfl⟩
    | succ k =>
      obtain ⟨l1, l2, h1, h2⟩ := ih (k := k) (q := q) h
      exact ⟨x :: l1, l2, by rw [h1]; rfl, by show x :: l.eraseIdx k = _; rw [h2]; rfl⟩
theorem stk_key (j : Nat) (hj : j < 3) (f : Nat → Int32) (w : Int32) (h : iv (f j + w) = iv (f j) + iv w) : iv (if 0 = j then f j + w else f 0) + iv (if 1 = j then f j + w else f 1) + iv (if 2 = j then f j + w else f 2) = iv (f 0) + iv (f 1) + iv (f 2) + iv w := by
  match j, hj with
  | 0, _ => rw [if_pos rfl, if_neg (by decide), if_neg (by decide), h]; omega
  | 1, _ => rw [if_neg (by decide), if_pos rfl, if_neg (by decide), h]; omega
  | 2, _ => rw [if_neg (by decide), if_neg (by decide), if_pos rfl, h]; omega
theorem stk_bd (j : Nat) (hj : j < 3) (f : Nat → Int32) (h : ∀ j, j < 3 → 0 ≤ iv (f j)) : 0 ≤ iv (f j) ∧ iv (f j) ≤ iv (f 0) + iv (f 1) + iv (f 2) := by
  have h0 := h 0 (by decide)
  have h1 := h 1 (by decide)
  have h2 := h 2 (by decide)
  match j, hj with
  | 0, _ => omega
  | 1, _ => omega
  | 2, _ => omega
theorem hI_rail1 (h : hI m A cut bound K H e M) (hz : (mL M (A 206)).length ≠ 0) : hI m A cut bound K H e (eRail1 m M) := by
  have hbn := stem_bnd h
  have hsz : ∀ b ∈ mL M (A 204), stk M b ≤ sz (stk M) (mL M (A 204)) := fun b hb => by
    refine sz_ge _ (fun x hx => ?_) hb
    obtain ⟨-, ⟨q, b2, -, b4⟩, -⟩ := h.2.2.1.2.2.2 x hx
    have hq : rf M 22 x = q := by unfold rf; rw [b2]; rfl
    unfold stk
    rw [hq]
    have := b4 0 (by decide)
    have := b4 1 (by decide)
    have := b4 2 (by decide)
    omega
  obtain ⟨s, g', u, y, cc, o, l, r, tt, z, n1, n2, n3, n4, n5⟩ := h
  have hr6 : rf M 206 m = A 206 := by unfold rf; rw [s.2.1 206 (by decide) (by decide)]; rfl
  obtain ⟨q, hq⟩ : ∃ q, (mL M (A 206))[vNr M (mL M (A 206))]? = some q := ⟨_, List.getElem?_eq_getElem (vNr_lt M hz)⟩
  obtain ⟨l1, l2, hs1, hs2⟩ := eraseIdx_split hq
  have hqm : q ∈ mL M (A 206) := List.mem_of_getElem? hq
  obtain ⟨q1, ⟨b, q2, q3⟩, q4, q5, q6⟩ := tt q hqm
  have hrb : rf M 180 q = b := by unfold rf; rw [q3]; rfl
  obtain ⟨u1, ⟨sk, u2, u3, u4⟩, u5⟩ := u.2.2.2 b q2
  have hrs : rf M 22 b = sk := by unfold rf; rw [u2]; rfl
  have hE : eRail1 m M = eUnload (sL M (A 206) (l1 ++ l2)) m q := by
    unfold eRail1
    rw [hr6, hq, hs2]
    rfl
  have hsum : sz (fun q => iv (fI M 182 q)) (mL M (A 206)) = iv (fI M 182 q) + sz (fun q => iv (fI M 182 q)) (l1 ++ l2) := by
    rw [hs1, sz_app, sz_app]
    generalize hf : (fun q => iv (fI M 182 q)) = f
    have hfq : iv (fI M 182 q) = f q := by rw [← hf]
    rw [hfq]
    show sz f l1 + (f q + sz f l2) = _
    omega
  have hl2 : ∀ x ∈ l1 ++ l2, x ∈ mL M (A 206) := fun x hx => by
    rw [hs1]
    rcases List.mem_append.mp hx with hx | hx
    · exact List.mem_append_left _ hx
    · exact List.mem_append_right _ (List.mem_cons_of_mem _ hx)
  have hsn := sz_nn (f := fun q => iv (fI M 182 q)) (l1 ++ l2) (fun x hx => by have := (tt x (hl2 x hx)).2.2.2.1; omega)
  rw [hE]
  have hm0 : ∀ i, 200 ≤ i → i ≤ 207 → i ≠ 206 → mL (sL M (A 206) (l1 ++ l2)) (A i) = mL M (A i) := fun i i1 i2 i3 => mL_sL_ne _ _ _ _ (s.ne ⟨i1, i2⟩ (by decide) i3)
  -- into the stock
  have toStock : hI m A cut bound K H e (sA (sL M (A 206) (l1 ++ l2)) sk (fI M 181 q).toNatClampNeg (aI M sk (fI M 181 q).toNatClampNeg + fI M 182 q)) := by
    generalize hN : sA (sL M (A 206) (l1 ++ l2)) sk (fI M 181 q).toNatClampNeg (aI M sk (fI M 181 q).toNatClampNeg + fI M 182 q) = N
    have p : pAg (fun _ => False ∨ False) M N := by rw [← hN]; exact (pAg_sL M _ _).tr (pAg_sA _ _ _ _)
    have vA : ∀ x j, aI N x j = if x = sk ∧ j = (fI M 181 q).toNatClampNeg then aI M sk (fI M 181 q).toNatClampNeg + fI M 182 q else aI M x j := fun x j => by rw [← hN]; exact (Eq.refl _)
    have vL : ∀ i, 200 ≤ i → i ≤ 207 → i ≠ 206 → mL N (A i) = mL M (A i) := fun i i1 i2 i3 => by rw [← hN, mL_sA]; exact hm0 i i1 i2 i3
    have v6 : mL N (A 206) = l1 ++ l2 := by rw [← hN, mL_sA, mL_sL_eq]
    have l0 := vL 200 (by decide) (by decide) (by decide)
    have l4 := vL 204 (by decide) (by decide) (by decide)
    have l22 := vL 202 (by decide) (by decide) (by decide)
    have hag : ∀ x ∈ mL M (A 200), ∀ y2, fR M 100 x = some y2 → ∀ j, aI N y2 j = aI M y2 j := fun x hx y2 hy2 j => by
      rw [vA, if_neg (fun w => byc_ne_gu y hx q2 hy2 u2 w.1)]
    have hcl := (bcv_in q4).2
    have hstk := hsz b q2
    have sk0 := u4 0 (by decide)
    have sk1 := u4 1 (by decide)
    have sk2 := u4 2 (by decide)
    have hs4 : iv (aI M sk 0) + iv (aI M sk 1) + iv (aI M sk 2) = stk M b := by unfold stk; rw [hrs]
    have hbd : 0 ≤ iv (aI M sk (fI M 181 q).toNatClampNeg) ∧ iv (aI M sk (fI M 181 q).toNatClampNeg) ≤ stk M b := by
      have := stk_bd _ hcl (aI M sk) (fun j hj => (u4 j hj))
      rw [← hs4]
      exact this
    have hcut := n1.1
    have hb0 := n1.2
    have hadd : iv (aI M sk (fI M 181 q).toNatClampNeg + fI M 182 q) = iv (aI M sk (fI M 181 q).toNatClampNeg) + iv (fI M 182 q) := iv_add (by omega) (by omega)
    have hstkN : stk N b = stk M b + iv (fI M 182 q) := by
      rw [← hs4]
      unfold stk
      rw [rf_of p (by omega), hrs, vA, vA, vA]
      have := stk_key _ hcl (aI M sk) (fI M 182 q) hadd
      simp only [true_and]
      omega
    refine ⟨hS_of s p, hG_of g' p l0 hag (by simp) (by simp), ⟨by rw [l4]; exact u.1, by rw [l4]; exact u.2.1, fun i x hx => ?_, fun x hx => ?_⟩, hY_of y s g' u p l0 l4 (fun j => by rw [vA, if_neg (fun w => byc_ne_u8 y q2 u2 w.1.symm)]), hC_of cc s p (vL 201 (by decide) (by decide) (by decide)) l0 (by simp), hO_of o p (vL 205 (by decide) (by decide) (by decide)) l4 (by simp), hL_of l p l22 l0 (by simp) (by simp), hR_of r l p l22 (vL 203 (by decide) (by decide) (by decide)) (by simp), fun x hx => ?_, hZ_of z p (vL 207 (by decide) (by decide) (by decide)), ?_, nPail_of n2 s l u p l22 l4 (by simp), nCoin_of n3 s g' u p l0 l4 (by simp), nSold_of n4 s g' p l0 (by simp), nMisc_of n5 s p (by simp)⟩
    · rw [l4] at hx
      rw [(p x (by rw [(u.2.2.2 x (List.mem_of_getElem? hx)).1]; decide)).2.1 20 (by simp)]
      exact u.2.2.1 i x hx
    · rw [l4] at hx
      obtain ⟨d1, ⟨q', d2, d3, d4⟩, d5⟩ := u.2.2.2 x hx
      have ee := p x (by omega)
      rw [ee.1, ee.2.1 21 (by simp), ee.2.1 24 (by simp), ee.2.1 25 (by simp), ee.2.1 23 (by simp), ee.2.1 26 (by simp)]
      refine ⟨d1, ⟨q', by rw [ee.2.2, d2], by rw [(p q' (by omega)).1, d3], fun j hj => ?_⟩, d5⟩
      rw [vA]
      split
      · rw [hadd]; omega
      · exact d4 j hj
    · rw [v6] at hx
      obtain ⟨b1, ⟨bb, b2, b3⟩, b5⟩ := tt x (hl2 x hx)
      have ee := p x (by omega)
      rw [ee.1, ee.2.1 181 (by simp), ee.2.1 182 (by simp), ee.2.1 183 (by simp), ee.2.2, l4]
      exact ⟨b1, ⟨bb, b2, b3⟩, b5⟩
    · obtain ⟨k1, k2, k3, k4⟩ := n1
      have e1 : sz (fun x => iv (fI N 125 x)) (mL M (A 202)) = sz (fun x => iv (fI M 125 x)) (mL M (A 202)) := sz_congr _ (fun x hx => by rw [(p x (by rw [(l.2.2.2 x hx).1]; decide)).2.1 _ (by simp)])
      have e2 : sz (stk N) (mL M (A 204)) = sz (stk M) (mL M (A 204)) + (stk N b - stk M b) := sz_upd _ u.1 q2 (fun x hx hxb => by
        obtain ⟨c1, ⟨q', c2, c3, c4⟩, c5⟩ := u.2.2.2 x hx
        have hq' : rf M 22 x = q' := by unfold rf; rw [c2]; rfl
        have hne : q' ≠ sk := fun w => hxb (byc_inj_u y hx q2 (by rw [c2, w]) u2)
        unfold stk
        rw [rf_of p (by omega), hq', vA, vA, vA, if_neg (fun w => hne w.1), if_neg (fun w => hne w.1), if_neg (fun w => hne w.1)])
      have e3 : sz (fun q => iv (fI N 182 q)) (l1 ++ l2) = sz (fun q => iv (fI M 182 q)) (l1 ++ l2) := sz_congr _ (fun x hx => by rw [(p x (by rw [(tt x (hl2 x hx)).1]; decide)).2.1 _ (by simp)])
      have e4 : fI N 215 m = fI M 215 m := (p m (by rw [s.1]; decide)).2.1 _ (by simp)
      unfold nStem
      rw [l22, l4, v6, e1, e2, e3, e4, hstkN]
      omega
  have hput : ∀ X, X = sL M (A 206) (l1 ++ l2) → ePut X (rf X 22 (rf X 180 q)) (fI X 181 q) (bcv X (rf X 22 (rf X 180 q)) (fI X 181 q) + fI X 182 q) = sA (sL M (A 206) (l1 ++ l2)) sk (fI M 181 q).toNatClampNeg (aI M sk (fI M 181 q).toNatClampNeg + fI M 182 q) := fun X hX => by
    have r1 : rf X 180 q = b := by rw [hX]; unfold rf; rw [fR_sL, q3]; rfl
    have r2 : rf X 22 b = sk := by rw [hX]; unfold rf; rw [fR_sL, u2]; rfl
    rw [r1, r2, hX, fI_sL, ePut_in q4, bcv_at q4, aI_sL]
  unfold eUnload
  split
  · rw [hput _ rfl]; exact toStock
  · split
    · rw [hput _ rfl]; exact toStock
    · generalize hN : sI (sL M (A 206) (l1 ++ l2)) 215 m (fI (sL M (A 206) (l1 ++ l2)) 215 m + fI (sL M (A 206) (l1 ++ l2)) 182 q) = N
      rw [fI_sL] at hN
      have p : pAg (fun i => False ∨ i = 215) M N := by rw [← hN]; exact (pAg_sL M _ _).tr (pAg_sI _ _ _ _)
      have vL : ∀ i, 200 ≤ i → i ≤ 207 → i ≠ 206 → mL N (A i) = mL M (A i) := fun i i1 i2 i3 => by rw [← hN, mL_sI]; exact hm0 i i1 i2 i3
      have v6 : mL N (A 206) = l1 ++ l2 := by rw [← hN, mL_sI, mL_sL_eq]
      have aN : aI N = aI M := by rw [← hN]; rfl
      have v215 : fI N 215 m = fI M 215 m + fI M 182 q := by rw [← hN, fI_sI_eq]
      have l0 := vL 200 (by decide) (by decide) (by decide)
      have l4 := vL 204 (by decide) (by decide) (by decide)
      have l22 := vL 202 (by decide) (by decide) (by decide)
      have hcut := n1.1
      have hb0 := n1.2
      have h215 : iv (fI M 215 m + fI M 182 q) = iv (fI M 215 m) + iv (fI M 182 q) := iv_add (by omega) (by omega)
      refine ⟨hS_of s p, hG_of g' p l0 (aI_all aN) (by simp) (by simp), hU_of u p l4 (aI_all aN) (by simp), hY_of y s g' u p l0 l4 (fun j => by rw [aN]), hC_of cc s p (vL 201 (by decide) (by decide) (by decide)) l0 (by simp), hO_of o p (vL 205 (by decide) (by decide) (by decide)) l4 (by simp), hL_of l p l22 l0 (by simp) (by simp), hR_of r l p l22 (vL 203 (by decide) (by decide) (by decide)) (by simp), fun x hx => ?_, hZ_of z p (vL 207 (by decide) (by decide) (by decide)), ?_, nPail_of n2 s l u p l22 l4 (by simp), nCoin_of n3 s g' u p l0 l4 (by simp), nSold_of n4 s g' p l0 (by simp), nMisc_of n5 s p (by simp)⟩
      · rw [v6] at hx
        obtain ⟨b1, ⟨bb, b2, b3⟩, b5⟩ := tt x (hl2 x hx)
        have ee := p x (by omega)
        rw [ee.1, ee.2.1 181 (by simp), ee.2.1 182 (by simp), ee.2.1 183 (by simp), ee.2.2, l4]
        exact ⟨b1, ⟨bb, b2, b3⟩, b5⟩
      · obtain ⟨k1, k2, k3, k4⟩ := n1
        have e1 : sz (fun x => iv (fI N 125 x)) (mL M (A 202)) = sz (fun x => iv (fI M 125 x)) (mL M (A 202)) := sz_congr _ (fun x hx => by rw [(p x (by rw [(l.2.2.2 x hx).1]; decide)).2.1 _ (by simp)])
        have e2 : sz (stk N) (mL M (A 204)) = sz (stk M) (mL M (A 204)) := sz_congr _ (fun x hx => by
          unfold stk
          rw [aN, rf_of p (by rw [(u.2.2.2 x hx).1]; decide)])
        have e3 : sz (fun q => iv (fI N 182 q)) (l1 ++ l2) = sz (fun q => iv (fI M 182 q)) (l1 ++ l2) := sz_congr _ (fun x hx => by rw [(p x (by rw [(tt x (hl2 x hx)).1]; decide)).2.1 _ (by simp)])
        unfold nStem
        rw [l22, l4, v6, e1, e2, e3, v215, h215]
        omega
theorem hI_railN (M0 : kx_M) (hr0 : rf M0 206 m = A 206) : ∀ (n : Nat) (M : kx_M) (x : Int32), hI m A cut bound K H e M → hI m A cut bound K H e (eRailN m n M0 (M, x)).1 ∧ ∃ k, k ≤ n ∧ (eRailN m n M0 (M, x)).2 = x + nI k := by
  intro n
  induction n with
  | zero => intro M x h; exact ⟨h, 0, Nat.le_refl _, by show x = x + 0; rw [Int32.add_zero]⟩
  | succ n ih =>
    intro M x h
    unfold eRailN
    rw [hr0]
    split
    · exact ⟨h, 0, Nat.zero_le _, by show x = x + 0; rw [Int32.add_zero]⟩
    · rename_i hz
      obtain ⟨a, k, b, c⟩ := ih (eRail1 m M) (x + 1) (hI_rail1 h hz)
      exact ⟨a, k + 1, by omega, by rw [c, Int32.add_assoc, Int32.add_comm 1 (nI k), nI_1]⟩
theorem eDays_sI (i a : Nat) (v : Int32) : ∀ (l : List Nat) (M : kx_M), l.foldl eDay (sI M i a v) = sI (l.foldl eDay M) i a v := by
  intro l
  induction l with
  | nil => intro M; rw [List.foldl_nil, List.foldl_nil]
  | cons x l ih =>
    intro M
    rw [List.foldl_cons, List.foldl_cons, ← ih]
    rfl
theorem railN_mL {i : Nat} (i1 : 200 ≤ i) (i2 : i ≤ 207) (i3 : i ≠ 206) {M0 : kx_M} (s : hS m A M0) : mL (eRailN m 2 (eHour m M0) (eHour m M0, 0)).1 (A i) = mL (eHour m M0) (A i) := by
  have hk : ∀ (n : Nat) (x : kx_M × Int32), fR x.1 = fR M0 → mL (eRailN m n (eHour m M0) x).1 (A i) = mL x.1 (A i) := by
    intro n
    induction n with
    | zero => intro x _; rfl
    | succ n ih =>
      intro x hx
      unfold eRailN
      split
      · rfl
      · have hr : rf x.1 206 m = A 206 := by unfold rf; rw [hx, s.2.1 206 (by decide) (by decide)]; rfl
        rw [ih]
        · show mL (eRail1 m x.1) (A i) = _
          unfold eRail1
          rw [mL_eUnload, hr, mL_sL_ne _ _ _ _ (s.ne ⟨i1, i2⟩ (by decide) i3)]
        · show fR (eRail1 m x.1) = _
          rw [(pSub_rail1 m x.1).2.1, hx]
  exact hk 2 (eHour m M0, 0) (fR_eHour _ _)
/-- an hour -/
theorem hI_hour (h : hI m A cut bound K H e M) (hH : H ≤ 10000) : hI m A cut bound (K - sm (fI M 102) (mL M (A 200))) (H + 1) e (eHour m M) := by
  have s := h.1
  have r0 : rf M 200 m = A 200 := by unfold rf; rw [s.2.1 200 (by decide) (by decide)]; rfl
  have r1 : rf M 201 m = A 201 := by unfold rf; rw [s.2.1 201 (by decide) (by decide)]; rfl
  have r2 : rf M 202 m = A 202 := by unfold rf; rw [s.2.1 202 (by decide) (by decide)]; rfl
  have r6 : rf M 206 m = A 206 := by unfold rf; rw [s.2.1 206 (by decide) (by decide)]; rfl
  have hH' : eHour m M = (mL M (A 206)).foldl eLoseT ((mL M (A 202)).foldl eLose ((mL M (A 200)).foldl ePay ((mL M (A 201)).foldl (eGrowC m) (if fI M 210 m + 1 - (fI M 210 m + 1) / 24 * 24 = 0 then (mL M (A 200)).foldl eDay (sI M 210 m (fI M 210 m + 1)) else sI M 210 m (fI M 210 m + 1))))) := by
    unfold eHour
    rw [r0, r1, r2, r6]
  rw [hH']
  obtain ⟨D, hD, hDL, hD102, hDh⟩ : ∃ D, (if fI M 210 m + 1 - (fI M 210 m + 1) / 24 * 24 = 0 then (mL M (A 200)).foldl eDay (sI M 210 m (fI M 210 m + 1)) else sI M 210 m (fI M 210 m + 1)) = sI D 210 m (fI D 210 m + 1) ∧ mL D = mL M ∧ fI D 102 = fI M 102 ∧ hI m A cut bound K H e D := by
    split
    · refine ⟨(mL M (A 200)).foldl eDay M, by rw [eDays_sI, fI_eDays], mL_eDays _ _, by rw [fI_eDays], ?_⟩
      exact (foldl_keep (P := fun N => hI m A cut bound K H e N ∧ mL N = mL M) (S := mL M (A 200)) (fun N x hx hN => ⟨hI_day hN.1 (by rw [hN.2]; exact hx), by rw [← hN.2]; unfold eDay; simp only [mL_sA]⟩) (mL M (A 200)) M (fun _ hx => hx) ⟨h, rfl⟩).1
    · exact ⟨M, rfl, rfl, rfl, h⟩
  rw [hD]
  have h1 := hI_grow hDh hH
  rw [hDL] at h1
  generalize hG : (mL M (A 201)).foldl (eGrowC m) (sI D 210 m (fI D 210 m + 1)) = G at h1
  have hGL : mL G = mL M := by rw [← hG, mL_eGrows, mL_sI, hDL]
  have hG102 : sm (fI G 102) (mL M (A 200)) = sm (fI M 102) (mL M (A 200)) := sm_congr _ (fun x _ => by
    rw [← hG, grow_o (by decide), fI_sI_ne _ _ _ _ _ _ (by decide), hD102])
  have h2 := hI_pays h1
  rw [hGL, hG102] at h2
  generalize hP : (mL M (A 200)).foldl ePay G = P at h2
  have hPL : mL P = mL M := by rw [← hP, mL_ePays, hGL]
  have h3 := (foldl_keep (P := fun N => hI m A cut bound (K - sm (fI M 102) (mL M (A 200))) (H + 1) e N ∧ mL N = mL M) (f := eLose) (S := mL M (A 202)) (fun N x hx hN => ⟨hI_lose hN.1 (by rw [hN.2]; exact hx), by rw [← hN.2]; exact mL_eLose _ _⟩) (mL M (A 202)) P (fun _ hx => hx) ⟨h2, hPL⟩)
  exact (foldl_keep (P := fun N => hI m A cut bound (K - sm (fI M 102) (mL M (A 200))) (H + 1) e N ∧ mL N = mL M) (f := eLoseT) (S := mL M (A 206)) (fun N x hx hN => ⟨hI_loseT hN.1 (by rw [hN.2]; exact hx), by rw [← hN.2]; unfold eLoseT; simp only [mL_sI]⟩) (mL M (A 206)) _ (fun _ hx => hx) h3).1
/-- what an hour leaves of crops, light, lamps -/
theorem hour_crop (h : hI m A cut bound K H e M) {N : kx_M} (hN : N = (eRailN m 2 (eHour m M) (eHour m M, 0)).1) : (∀ c ∈ mL M (A 201), fI N 84 c = g84 m M c ∧ fI N 85 c = g85 m M c ∧ fI N 82 c = fI M 82 c) ∧ fI N 211 m = fI M 211 m ∧ (∀ g, fI N 102 g = fI M 102 g) ∧ fR N = fR M ∧ mL N (A 201) = mL M (A 201) ∧ mL N (A 200) = mL M (A 200) ∧ mL N (A 202) = mL M (A 202) := by
  have s := h.1
  have cc := h.2.2.2.2.1
  have r0 : rf M 200 m = A 200 := by unfold rf; rw [s.2.1 200 (by decide) (by decide)]; rfl
  have r1 : rf M 201 m = A 201 := by unfold rf; rw [s.2.1 201 (by decide) (by decide)]; rfl
  have r2 : rf M 202 m = A 202 := by unfold rf; rw [s.2.1 202 (by decide) (by decide)]; rfl
  have r6 : rf M 206 m = A 206 := by unfold rf; rw [s.2.1 206 (by decide) (by decide)]; rfl
  obtain ⟨p1, p2⟩ := pSub_railN m (eHour m M) 2 (eHour m M, 0)
  rw [← hN] at p1 p2
  have hH' : eHour m M = (mL M (A 206)).foldl eLoseT ((mL M (A 202)).foldl eLose ((mL M (A 200)).foldl ePay ((mL M (A 201)).foldl (eGrowC m) (if fI M 210 m + 1 - (fI M 210 m + 1) / 24 * 24 = 0 then (mL M (A 200)).foldl eDay (sI M 210 m (fI M 210 m + 1)) else sI M 210 m (fI M 210 m + 1))))) := by
    unfold eHour
    rw [r0, r1, r2, r6]
  obtain ⟨D, hD, hDI, hDR, hDL⟩ : ∃ D, (if fI M 210 m + 1 - (fI M 210 m + 1) / 24 * 24 = 0 then (mL M (A 200)).foldl eDay (sI M 210 m (fI M 210 m + 1)) else sI M 210 m (fI M 210 m + 1)) = sI D 210 m (fI D 210 m + 1) ∧ fI D = fI M ∧ fR D = fR M ∧ mL D = mL M := by
    split
    · exact ⟨(mL M (A 200)).foldl eDay M, by rw [eDays_sI, fI_eDays], fI_eDays _ _, fR_eDays _ _, mL_eDays _ _⟩
    · exact ⟨M, rfl, rfl, rfl, rfl⟩
  have hlo : ∀ i x, i ≠ 126 → i ≠ 183 → i ≠ 101 → fI (eHour m M) i x = fI ((mL M (A 201)).foldl (eGrowC m) (sI D 210 m (fI D 210 m + 1))) i x := fun i x i1 i2 i3 => by
    rw [hH', hD, foldl_fI (i := i) (f := eLoseT) (fun M x a => by unfold eLoseT; exact fI_sI_ne _ _ _ _ _ _ i2), foldl_fI (i := i) (f := eLose) (fun M x a => by
      unfold eLose
      split
      · rfl
      · exact fI_sI_ne _ _ _ _ _ _ i1), foldl_fI (i := i) (f := ePay) (fun M x a => by unfold ePay; exact fI_sI_ne _ _ _ _ _ _ i3)]
  have hv : ∀ i x, i ≠ 126 → i ≠ 183 → i ≠ 101 → i ≠ 215 → fI N i x = fI ((mL M (A 201)).foldl (eGrowC m) (sI D 210 m (fI D 210 m + 1))) i x := fun i x i1 i2 i3 i4 => (p2 i x i4).trans (hlo i x i1 i2 i3)
  have hrD : ∀ c, rf (sI D 210 m (fI D 210 m + 1)) 80 c = rf M 80 c := fun c => by unfold rf; rw [fR_sI, hDR]
  have hmN : ∀ i, 200 ≤ i → i ≤ 207 → i ≠ 206 → mL N (A i) = mL M (A i) := fun i i1 i2 i3 => by
    rw [hN, railN_mL i1 i2 i3 s, mL_eHour]
  refine ⟨fun c hc => ⟨?_, ?_, ?_⟩, ?_, fun g => ?_, by rw [p1.2.1, fR_eHour], hmN 201 (by decide) (by decide) (by decide), hmN 200 (by decide) (by decide) (by decide), hmN 202 (by decide) (by decide) (by decide)⟩
  · rw [hv 84 c (by decide) (by decide) (by decide) (by decide), grow_84 _ _ _ cc.1, if_pos hc]
    unfold g84
    rw [hrD, fI_sI_ne _ _ _ _ _ _ (by decide), fI_sI_ne _ _ _ _ _ _ (by decide), fI_sI_ne _ _ _ _ _ _ (by decide), hDI]
  · rw [hv 85 c (by decide) (by decide) (by decide) (by decide), grow_85 _ _ _ cc.1, if_pos hc]
    unfold g85 g84
    rw [hrD, fI_sI_ne _ _ _ _ _ _ (by decide), fI_sI_ne _ _ _ _ _ _ (by decide), fI_sI_ne _ _ _ _ _ _ (by decide), fI_sI_ne _ _ _ _ _ _ (by decide), fI_sI_ne _ _ _ _ _ _ (by decide), hDI]
  · rw [hv 82 c (by decide) (by decide) (by decide) (by decide), grow_o (by decide), fI_sI_ne _ _ _ _ _ _ (by decide), hDI]
  · rw [hv 211 m (by decide) (by decide) (by decide) (by decide), grow_o (by decide), fI_sI_ne _ _ _ _ _ _ (by decide), hDI]
  · rw [hv 102 g (by decide) (by decide) (by decide) (by decide), grow_o (by decide), fI_sI_ne _ _ _ _ _ _ (by decide), hDI]
end RL
