/-! THE HALL'S BEGINNING -/
theorem aI_eByc (M : kx_M) (q : Nat) (x : Int32) (a j : Nat) (h : a ≠ q) : aI (eByc M q x) a j = aI M a j := by
  unfold eByc
  rw [aI_sKd]
  show (if a = q ∧ j = 2 then x else if a = q ∧ j = 1 then x else if a = q ∧ j = 0 then x else aI (sN M q 13 0) a j) = _
  rw [if_neg (fun w => h w.1), if_neg (fun w => h w.1), if_neg (fun w => h w.1), aI_sN_ne h]
theorem aI_eByc_q (M : kx_M) (q : Nat) (x : Int32) (j : Nat) (h : j < 3) : aI (eByc M q x) q j = x := by
  unfold eByc
  rw [aI_sKd]
  show (if q = q ∧ j = 2 then x else if q = q ∧ j = 1 then x else if q = q ∧ j = 0 then x else aI (sN M q 13 0) q j) = _
  match j, h with
  | 0, _ => rw [if_neg (by omega), if_neg (by omega), if_pos ⟨rfl, rfl⟩]
  | 1, _ => rw [if_neg (by omega), if_pos ⟨rfl, rfl⟩]
  | 2, _ => rw [if_pos ⟨rfl, rfl⟩]
theorem kd_eByc_q (M : kx_M) (q : Nat) (x : Int32) : kd (eByc M q x) q = 3 := by unfold eByc; exact kd_sKd _ _ _
theorem fI_eByc_ne {M : kx_M} {q b : Nat} {x : Int32} (i : Nat) (h : b ≠ q) : fI (eByc M q x) i b = fI M i b := if_neg h
theorem mL_eByc_ne {M : kx_M} {q b : Nat} {x : Int32} (h : b ≠ q) : mL (eByc M q x) b = mL M b := if_neg h
section SU
variable {m : Nat} {A : Nat → Nat} {cut bound : Int} {K : Int32} {H : Int} {M : kx_M}
theorem hI_init {M0 N : kx_M} {As : List Nat} {q r : Nat} (h0 : ∀ i, fI M0 i m = 0) (hI0 : lI M0 m As N) (h8 : As.length = 8) (hq : kd N q = 0) (hr : kd N r = 0) (hqr : q ≠ r) : ∃ A, hI m A 0 0 0 0 0 (sI (sI (sI (sR (sN (sR (eByc N q 500) 208 m (some q)) r 4 0) 209 m (some r)) 211 m 5) 212 m 60) 213 m 2) ∧ ∀ i, 200 ≤ i → i ≤ 207 → mL (sI (sI (sI (sR (sN (sR (eByc N q 500) 208 m (some q)) r 4 0) 209 m (some r)) 211 m 5) 212 m 60) 213 m 2) (A i) = [] := by
  obtain ⟨i1, i2, i3, i4, i5⟩ := hI0
  refine ⟨fun i => if i ≤ 207 then (As[i - 200]?).getD 0 else if i = 208 then q else r, ?_⟩
  generalize hA : (fun i : Nat => if i ≤ 207 then (As[i - 200]?).getD 0 else if i = 208 then q else r) = A
  generalize hN : sI (sI (sI (sR (sN (sR (eByc N q 500) 208 m (some q)) r 4 0) 209 m (some r)) 211 m 5) 212 m 60) 213 m 2 = P
  have hmq : m ≠ q := kx_ne i1 hq (by decide)
  have hmr : m ≠ r := kx_ne i1 hr (by decide)
  have a7 : ∀ i, 200 ≤ i → i ≤ 207 → As[i - 200]? = some (A i) := fun i a b => by
    obtain ⟨x, hx⟩ : ∃ x, As[i - 200]? = some x := ⟨_, List.getElem?_eq_getElem (by omega)⟩
    rw [hx, ← hA]
    show some x = some (if i ≤ 207 then (As[i - 200]?).getD 0 else _)
    rw [if_pos b, hx]
    rfl
  have a8 : A 208 = q := by rw [← hA]; rfl
  have a9 : A 209 = r := by rw [← hA]; rfl
  have kP : ∀ x, x ≠ q → x ≠ r → kd P x = kd N x := fun x xq xr => by
    rw [← hN, kd_sI, kd_sI, kd_sI, kd_sR, kd_sN_ne xr, kd_sR, kd_eByc_ne xq]
  have lP : ∀ x, x ≠ q → x ≠ r → mL P x = mL N x := fun x xq xr => by
    rw [← hN, mL_sI, mL_sI, mL_sI, mL_sR, mL_sN_ne xr, mL_sR, mL_eByc_ne xq]
  have ne7 : ∀ i, 200 ≤ i → i ≤ 207 → A i ≠ q ∧ A i ≠ r := fun i a b => by
    have := (i3 (i - 200) (A i) (a7 i a b)).2.1
    exact ⟨kx_ne this hq (by decide), kx_ne this hr (by decide)⟩
  have e7 : ∀ i, 200 ≤ i → i ≤ 207 → mL P (A i) = [] := fun i a b => by
    rw [lP _ (ne7 i a b).1 (ne7 i a b).2]
    exact (i3 (i - 200) (A i) (a7 i a b)).2.2
  have k3 : kd P q = 3 := by rw [← hN, kd_sI, kd_sI, kd_sI, kd_sR, kd_sN_ne hqr, kd_sR, kd_eByc_q]
  have k4 : kd P r = 4 := by rw [← hN, kd_sI, kd_sI, kd_sI, kd_sR, kd_sN]
  have hS' : hS m A P := by
    refine ⟨by rw [kP m hmq hmr, i1], fun i a b => ?_, fun i a b => ?_, by rw [a8, k3], by rw [a9, k4], fun i j a b c d w => ?_⟩
    · by_cases h9 : i = 209
      · subst h9; rw [a9, ← hN, fR_sI, fR_sI, fR_sI, fR_sR_eq]
      · rw [← hN, fR_sI, fR_sI, fR_sI, fR_sR_ne _ _ _ _ _ _ h9, fR_sN_ne _ hmr]
        by_cases h8' : i = 208
        · subst h8'; rw [a8, fR_sR_eq]
        · rw [fR_sR_ne _ _ _ _ _ _ h8', fR_eByc_ne hmq]
          have := (i3 (i - 200) (A i) (a7 i a (by omega))).1
          rw [show 200 + (i - 200) = i by omega] at this
          exact this
    · rw [kP _ (ne7 i a b).1 (ne7 i a b).2]
      exact (i3 (i - 200) (A i) (a7 i a b)).2.1
    · have h1 := a7 i a b
      have h2 := a7 j c d
      rw [← w] at h2
      have h3 : i - 200 = j - 200 := (List.getElem?_inj (by omega) i2).mp (h1.trans h2.symm)
      omega
  have f0 : ∀ i, i ≠ 211 → i ≠ 212 → i ≠ 213 → fI P i m = 0 := fun i a b c => by
    rw [← hN, fI_sI_ne _ _ _ _ _ _ c, fI_sI_ne _ _ _ _ _ _ b, fI_sI_ne _ _ _ _ _ _ a, fI_sR, fI_sN_ne _ hmr, fI_sR, fI_eByc_ne _ hmq, i4, h0]
  have f212 : fI P 212 m = 60 := by rw [← hN, fI_sI_ne _ _ _ _ _ _ (by decide), fI_sI_eq]
  have f211 : fI P 211 m = 5 := by rw [← hN, fI_sI_ne _ _ _ _ _ _ (by decide), fI_sI_ne _ _ _ _ _ _ (by decide), fI_sI_eq]
  have f213 : fI P 213 m = 2 := by rw [← hN, fI_sI_eq]
  have g0 := e7 200 (by decide) (by decide)
  have g1 := e7 201 (by decide) (by decide)
  have g2 := e7 202 (by decide) (by decide)
  have g3 := e7 203 (by decide) (by decide)
  have g4 := e7 204 (by decide) (by decide)
  have g5 := e7 205 (by decide) (by decide)
  have g6 := e7 206 (by decide) (by decide)
  have g7 := e7 207 (by decide) (by decide)
  refine ⟨⟨hS', ⟨by rw [g0]; exact List.nodup_nil, by rw [g0]; decide, fun x hx => by rw [g0] at hx; exact absurd hx List.not_mem_nil⟩, ⟨by rw [g4]; exact List.nodup_nil, by rw [g4]; decide, fun i x hx => by rw [g4] at hx; simp at hx, fun x hx => by rw [g4] at hx; exact absurd hx List.not_mem_nil⟩, ⟨by rw [g0, g4]; simp, fun j hj => ?_⟩, ⟨by rw [g1]; exact List.nodup_nil, by rw [g1]; decide, fun x hx => by rw [g1] at hx; exact absurd hx List.not_mem_nil⟩, ⟨by rw [g5]; decide, fun x hx => by rw [g5] at hx; exact absurd hx List.not_mem_nil⟩, ⟨by rw [g2]; exact List.nodup_nil, by rw [g2]; decide, fun i x hx => by rw [g2] at hx; simp at hx, fun x hx => by rw [g2] at hx; exact absurd hx List.not_mem_nil⟩, ⟨by rw [g3]; exact List.nodup_nil, fun x hx => by rw [g3] at hx; exact absurd hx List.not_mem_nil, by rw [g2, g3]; rfl⟩, fun x hx => by rw [g6] at hx; exact absurd hx List.not_mem_nil, ⟨by rw [g7]; decide, fun x hx => by rw [g7] at hx; exact absurd hx List.not_mem_nil⟩, ?_, ?_, ?_, ?_, ?_⟩, e7⟩
  · rw [a8, ← hN, aI_sI, aI_sI, aI_sI, aI_sR, aI_sN_ne hqr, aI_sR]
    exact aI_eByc_q _ _ _ _ hj
  · unfold nStem
    rw [g2, g4, g6, f0 215 (by decide) (by decide) (by decide)]
    exact ⟨by show (0 : Int) + iv 0 + 0 + 0 + 0 = 0; decide, by decide, by decide, by decide⟩
  · unfold nPail
    rw [g2, g4, f212]
    show (60 : Int32) + 0 + 0 = 60
    decide
  · unfold nCoin
    rw [g0, g4, f0 214 (by decide) (by decide) (by decide)]
    show (0 : Int32) + 0 + 0 = 0
    decide
  · unfold nSold
    rw [g0, f0 216 (by decide) (by decide) (by decide)]
    rfl
  · unfold nMisc
    rw [f0 210 (by decide) (by decide) (by decide), f211, f213]
    exact ⟨⟨by decide, by decide⟩, ⟨by decide, by decide⟩, rfl⟩
theorem hI_grower {a q : Nat} (h : hI m A cut bound K H 0 M) (h1 : mL M (A 201) = []) (h2 : mL M (A 202) = []) (h3 : (mL M (A 200)).length < 3) (ha : kd M a = 0) (hq : kd M q = 0) (haq : a ≠ q) : hI m A cut bound (K + 100) H 0 (sL (eGro (sN M a 6 0) a q) (A 200) (mL M (A 200) ++ [a])) ∧ (∀ i, 200 ≤ i → i ≤ 207 → i ≠ 200 → mL (sL (eGro (sN M a 6 0) a q) (A 200) (mL M (A 200) ++ [a])) (A i) = mL M (A i)) ∧ mL (sL (eGro (sN M a 6 0) a q) (A 200) (mL M (A 200) ++ [a])) (A 200) = mL M (A 200) ++ [a] := by
  obtain ⟨s, g', u, y, cc, o, l, r, tt, z, n1, n2, n3, n4, n5⟩ := h
  generalize hN : sL (eGro (sN M a 6 0) a q) (A 200) (mL M (A 200) ++ [a]) = N
  unfold eGro at hN
  have p : pAg (fun _ => False) M N := fun x hx => by
    have xa : x ≠ a := fun w => hx (by rw [w]; exact ha)
    have xq : x ≠ q := fun w => hx (by rw [w]; exact hq)
    rw [← hN]
    exact ⟨by rw [kd_sL, kd_sI, kd_sI, kd_sR, kd_eByc_ne xq, kd_sN_ne xa], fun i _ => by rw [fI_sL, fI_sI_na _ _ _ _ _ _ xa, fI_sI_na _ _ _ _ _ _ xa, fI_sR, fI_eByc_ne _ xq, fI_sN_ne _ xa], fun i => by rw [fR_sL, fR_sI, fR_sI, fR_sR_na _ _ _ _ _ _ xa, fR_eByc_ne xq, fR_sN_ne _ xa]⟩
  have vA : ∀ x j, kd M x ≠ 0 → aI N x j = aI M x j := fun x j hx => by
    have xa : x ≠ a := fun w => hx (by rw [w]; exact ha)
    have xq : x ≠ q := fun w => hx (by rw [w]; exact hq)
    rw [← hN, aI_sL, aI_sI, aI_sI, aI_sR, aI_eByc _ _ _ _ _ xq, aI_sN_ne xa]
  have ka : ∀ i, 200 ≤ i → i ≤ 207 → A i ≠ a ∧ A i ≠ q := fun i i1 i2 => ⟨kx_ne (s.2.2.1 i i1 i2) ha (by decide), kx_ne (s.2.2.1 i i1 i2) hq (by decide)⟩
  have vL : ∀ i, 200 ≤ i → i ≤ 207 → i ≠ 200 → mL N (A i) = mL M (A i) := fun i i1 i2 i3 => by
    rw [← hN, mL_sL_ne _ _ _ _ (s.ne ⟨i1, i2⟩ (by decide) i3), mL_sI, mL_sI, mL_sR, mL_eByc_ne (ka i i1 i2).2, mL_sN_ne (ka i i1 i2).1]
  have v0 : mL N (A 200) = mL M (A 200) ++ [a] := by rw [← hN, mL_sL_eq]
  have ea : kd N a = 6 ∧ fR N 100 a = some q ∧ fI N 101 a = 100 ∧ fI N 102 a = 0 ∧ fI N 103 a = 50 ∧ fI N 104 a = 0 := by
    rw [← hN]
    refine ⟨by rw [kd_sL, kd_sI, kd_sI, kd_sR, kd_eByc_ne haq, kd_sN], by rw [fR_sL, fR_sI, fR_sI, fR_sR_eq], by rw [fI_sL, fI_sI_ne _ _ _ _ _ _ (by decide), fI_sI_eq], ?_, by rw [fI_sL, fI_sI_eq], ?_⟩
    · rw [fI_sL, fI_sI_ne _ _ _ _ _ _ (by decide), fI_sI_ne _ _ _ _ _ _ (by decide), fI_sR, fI_eByc_ne _ haq, fI_sN]
    · rw [fI_sL, fI_sI_ne _ _ _ _ _ _ (by decide), fI_sI_ne _ _ _ _ _ _ (by decide), fI_sR, fI_eByc_ne _ haq, fI_sN]
  have eq3 : kd N q = 3 := by rw [← hN, kd_sL, kd_sI, kd_sI, kd_sR, kd_eByc_q]
  have eq0 : ∀ j, j < 3 → aI N q j = 0 := fun j hj => by rw [← hN, aI_sL, aI_sI, aI_sI, aI_sR]; exact aI_eByc_q _ _ _ _ hj
  obtain ⟨e1, e2, e3, e4, e5, e6⟩ := ea
  have l1 := vL 201 (by decide) (by decide) (by decide)
  have l2 := vL 202 (by decide) (by decide) (by decide)
  have l3 := vL 203 (by decide) (by decide) (by decide)
  have l4 := vL 204 (by decide) (by decide) (by decide)
  have l5 := vL 205 (by decide) (by decide) (by decide)
  have l6 := vL 206 (by decide) (by decide) (by decide)
  have l7 := vL 207 (by decide) (by decide) (by decide)
  have hna : a ∉ mL M (A 200) := fun w => by have := (g'.2.2 a w).1; omega
  have hau : ∀ x ∈ mL M (A 204), ∀ y2, fR M 22 x = some y2 → ∀ j, aI N y2 j = aI M y2 j := fun x hx y2 hy2 j => by
    obtain ⟨-, ⟨q', b2, b3, -⟩, -⟩ := u.2.2.2 x hx
    rw [hy2] at b2; cases b2
    exact vA y2 j (by omega)
  refine ⟨⟨hS_of s p, ⟨by rw [v0]; exact nodup_snoc g'.1 hna, by rw [v0, List.length_append]; show _ + 1 ≤ 3; omega, fun x hx => ?_⟩, hU_of u p l4 hau (by simp), ⟨?_, fun j hj => by rw [vA _ _ (by rw [s.2.2.2.1]; decide)]; exact y.2 j hj⟩, ⟨by rw [l1, h1]; exact List.nodup_nil, by rw [l1, h1]; decide, fun x hx => by rw [l1, h1] at hx; exact absurd hx List.not_mem_nil⟩, hO_of o p l5 l4 (by simp), ⟨by rw [l2, h2]; exact List.nodup_nil, by rw [l2, h2]; decide, fun i x hx => by rw [l2, h2] at hx; simp at hx, fun x hx => by rw [l2, h2] at hx; exact absurd hx List.not_mem_nil⟩, hR_of r l p l2 l3 (by simp), hT_of tt p l6 l4 (by simp), hZ_of z p l7, nStem_of n1 s l u tt p l2 l4 l6 hau (by simp), nPail_of n2 s l u p l2 l4 (by simp), ?_, ?_, nMisc_of n5 s p (by simp)⟩, vL, v0⟩
  · rw [v0] at hx
    rcases List.mem_append.mp hx with hx | hx
    · obtain ⟨b1, ⟨q2, b2, b3, b4⟩, b5⟩ := g'.2.2 x hx
      obtain ⟨x1, x2, x3⟩ := p x (by omega)
      rw [x1, x2 102 (fun z => z), x2 103 (fun z => z)]
      exact ⟨b1, ⟨q2, by rw [x3, b2], by rw [(p q2 (by omega)).1, b3], fun j hj => by rw [vA q2 j (by omega)]; exact b4 j hj⟩, b5⟩
    · rw [List.mem_singleton] at hx
      rw [hx, e4, e5]
      exact ⟨e1, ⟨q, e2, eq3, fun j hj => by rw [eq0 j hj]; exact ⟨by decide, by decide⟩⟩, by decide, by decide, by decide, by decide⟩
  · have m1 : (mL M (A 200)).map (rf N 100) = (mL M (A 200)).map (rf M 100) := List.map_congr_left (fun x hx => rf_of p (by rw [(g'.2.2 x hx).1]; decide))
    have m2 : (mL M (A 204)).map (rf N 22) = (mL M (A 204)).map (rf M 22) := List.map_congr_left (fun x hx => rf_of p (by rw [(u.2.2.2 x hx).1]; decide))
    have m3 : rf N 100 a = q := by unfold rf; rw [e2]; rfl
    have old : ∀ w ∈ (A 208 :: ((mL M (A 200)).map (rf M 100) ++ (mL M (A 204)).map (rf M 22))), w ≠ q := fun w hw hwq => by
      have hk : kd M w ≠ 0 := by
        rcases List.mem_cons.mp hw with hw | hw
        · rw [hw, s.2.2.2.1]; decide
        · rcases List.mem_append.mp hw with hw | hw
          · obtain ⟨x, hx, hx2⟩ := List.mem_map.mp hw
            obtain ⟨-, ⟨q2, b2, b3, -⟩, -⟩ := g'.2.2 x hx
            have : rf M 100 x = q2 := by unfold rf; rw [b2]; rfl
            rw [← hx2, this, b3]; decide
          · obtain ⟨x, hx, hx2⟩ := List.mem_map.mp hw
            obtain ⟨-, ⟨q2, b2, b3, -⟩, -⟩ := u.2.2.2 x hx
            have : rf M 22 x = q2 := by unfold rf; rw [b2]; rfl
            rw [← hx2, this, b3]; decide
      rw [hwq] at hk
      exact hk hq
    rw [v0, l4, List.map_append, m1, m2, List.map_cons, List.map_nil, m3, List.append_assoc]
    have hy := y.1
    have hp : (A 208 :: ((mL M (A 200)).map (rf M 100) ++ ([q] ++ (mL M (A 204)).map (rf M 22)))).Perm (q :: (A 208 :: ((mL M (A 200)).map (rf M 100) ++ (mL M (A 204)).map (rf M 22)))) := by
      have h1 : ((mL M (A 200)).map (rf M 100) ++ ([q] ++ (mL M (A 204)).map (rf M 22))).Perm (q :: ((mL M (A 200)).map (rf M 100) ++ (mL M (A 204)).map (rf M 22))) := List.perm_middle
      exact (List.Perm.cons _ h1).trans (List.Perm.swap _ _ _)
    rw [hp.nodup_iff]
    exact List.nodup_cons.mpr ⟨fun w => old q w rfl, hy⟩
  · have em := (p m (by rw [s.1]; decide)).2.1 214 (fun z => z)
    have c1 : sm (fI N 23) (mL M (A 204)) = sm (fI M 23) (mL M (A 204)) := sm_congr _ (fun x hx => (p x (by rw [(u.2.2.2 x hx).1]; decide)).2.1 _ (fun z => z))
    have c2 : sm (fI N 101) (mL M (A 200)) = sm (fI M 101) (mL M (A 200)) := sm_congr _ (fun x hx => (p x (by rw [(g'.2.2 x hx).1]; decide)).2.1 _ (fun z => z))
    have c3 : sm (fI N 101) [a] = 100 := by show fI N 101 a + 0 = 100; rw [e3]; decide
    unfold nCoin at n3 ⊢
    rw [v0, l4, sm_app, c1, c2, c3, em, ← n3]
    generalize sm (fI M 23) (mL M (A 204)) = w1
    generalize sm (fI M 101) (mL M (A 200)) = w2
    generalize fI M 214 m = w3
    grind
  · have em := (p m (by rw [s.1]; decide)).2.1 216 (fun z => z)
    have c2 : sm (fI N 104) (mL M (A 200)) = sm (fI M 104) (mL M (A 200)) := sm_congr _ (fun x hx => (p x (by rw [(g'.2.2 x hx).1]; decide)).2.1 _ (fun z => z))
    have c3 : sm (fI N 104) [a] = 0 := by show fI N 104 a + 0 = 0; rw [e6]; decide
    unfold nSold at n4 ⊢
    rw [v0, sm_app, c2, c3, em, n4, Int32.add_zero]
theorem hI_buyer {a q : Nat} {lat : Int32} (h : hI m A cut bound K H 0 M) (h5 : mL M (A 205) = []) (h6 : mL M (A 206) = []) (h3 : (mL M (A 204)).length < 3) (ha : kd M a = 0) (hq : kd M q = 0) (haq : a ≠ q) (hlat : 0 ≤ iv lat ∧ iv lat ≤ 9) : hI m A cut bound (K + 2000) H 0 (sL (eBuy (sN M a 2 0) a q (nI (mL M (A 204)).length) lat) (A 204) (mL M (A 204) ++ [a])) ∧ (∀ i, 200 ≤ i → i ≤ 207 → i ≠ 204 → mL (sL (eBuy (sN M a 2 0) a q (nI (mL M (A 204)).length) lat) (A 204) (mL M (A 204) ++ [a])) (A i) = mL M (A i)) ∧ mL (sL (eBuy (sN M a 2 0) a q (nI (mL M (A 204)).length) lat) (A 204) (mL M (A 204) ++ [a])) (A 204) = mL M (A 204) ++ [a] := by
  obtain ⟨s, g', u, y, cc, o, l, r, tt, z, n1, n2, n3, n4, n5⟩ := h
  generalize hN : sL (eBuy (sN M a 2 0) a q (nI (mL M (A 204)).length) lat) (A 204) (mL M (A 204) ++ [a]) = N
  unfold eBuy at hN
  have p : pAg (fun _ => False) M N := fun x hx => by
    have xa : x ≠ a := fun w => hx (by rw [w]; exact ha)
    have xq : x ≠ q := fun w => hx (by rw [w]; exact hq)
    rw [← hN]
    exact ⟨by rw [kd_sL, kd_sI, kd_sI, kd_sI, kd_sI, kd_sR, kd_eByc_ne xq, kd_sN_ne xa], fun i _ => by rw [fI_sL, fI_sI_na _ _ _ _ _ _ xa, fI_sI_na _ _ _ _ _ _ xa, fI_sI_na _ _ _ _ _ _ xa, fI_sI_na _ _ _ _ _ _ xa, fI_sR, fI_eByc_ne _ xq, fI_sN_ne _ xa], fun i => by rw [fR_sL, fR_sI, fR_sI, fR_sI, fR_sI, fR_sR_na _ _ _ _ _ _ xa, fR_eByc_ne xq, fR_sN_ne _ xa]⟩
  have vA : ∀ x j, kd M x ≠ 0 → aI N x j = aI M x j := fun x j hx => by
    have xa : x ≠ a := fun w => hx (by rw [w]; exact ha)
    have xq : x ≠ q := fun w => hx (by rw [w]; exact hq)
    rw [← hN, aI_sL, aI_sI, aI_sI, aI_sI, aI_sI, aI_sR, aI_eByc _ _ _ _ _ xq, aI_sN_ne xa]
  have ka : ∀ i, 200 ≤ i → i ≤ 207 → A i ≠ a ∧ A i ≠ q := fun i i1 i2 => ⟨kx_ne (s.2.2.1 i i1 i2) ha (by decide), kx_ne (s.2.2.1 i i1 i2) hq (by decide)⟩
  have vL : ∀ i, 200 ≤ i → i ≤ 207 → i ≠ 204 → mL N (A i) = mL M (A i) := fun i i1 i2 i3 => by
    rw [← hN, mL_sL_ne _ _ _ _ (s.ne ⟨i1, i2⟩ (by decide) i3), mL_sI, mL_sI, mL_sI, mL_sI, mL_sR, mL_eByc_ne (ka i i1 i2).2, mL_sN_ne (ka i i1 i2).1]
  have v4 : mL N (A 204) = mL M (A 204) ++ [a] := by rw [← hN, mL_sL_eq]
  have ea : kd N a = 2 ∧ fR N 22 a = some q ∧ fI N 20 a = nI (mL M (A 204)).length ∧ fI N 21 a = lat ∧ fI N 23 a = 2000 ∧ fI N 24 a = 0 ∧ fI N 25 a = -1 ∧ fI N 26 a = 0 := by
    rw [← hN]
    refine ⟨by rw [kd_sL, kd_sI, kd_sI, kd_sI, kd_sI, kd_sR, kd_eByc_ne haq, kd_sN], by rw [fR_sL, fR_sI, fR_sI, fR_sI, fR_sI, fR_sR_eq], by rw [fI_sL, fI_sI_ne _ _ _ _ _ _ (by decide), fI_sI_eq], by rw [fI_sL, fI_sI_eq], by rw [fI_sL, fI_sI_ne _ _ _ _ _ _ (by decide), fI_sI_ne _ _ _ _ _ _ (by decide), fI_sI_ne _ _ _ _ _ _ (by decide), fI_sI_eq], ?_, by rw [fI_sL, fI_sI_ne _ _ _ _ _ _ (by decide), fI_sI_ne _ _ _ _ _ _ (by decide), fI_sI_eq], ?_⟩
    · rw [fI_sL, fI_sI_ne _ _ _ _ _ _ (by decide), fI_sI_ne _ _ _ _ _ _ (by decide), fI_sI_ne _ _ _ _ _ _ (by decide), fI_sI_ne _ _ _ _ _ _ (by decide), fI_sR, fI_eByc_ne _ haq, fI_sN]
    · rw [fI_sL, fI_sI_ne _ _ _ _ _ _ (by decide), fI_sI_ne _ _ _ _ _ _ (by decide), fI_sI_ne _ _ _ _ _ _ (by decide), fI_sI_ne _ _ _ _ _ _ (by decide), fI_sR, fI_eByc_ne _ haq, fI_sN]
  have eq3 : kd N q = 3 := by rw [← hN, kd_sL, kd_sI, kd_sI, kd_sI, kd_sI, kd_sR, kd_eByc_q]
  have eq0 : ∀ j, j < 3 → aI N q j = 0 := fun j hj => by rw [← hN, aI_sL, aI_sI, aI_sI, aI_sI, aI_sI, aI_sR]; exact aI_eByc_q _ _ _ _ hj
  obtain ⟨e1, e2, e3, e4, e5, e6, e7, e8⟩ := ea
  have l0 := vL 200 (by decide) (by decide) (by decide)
  have l1 := vL 201 (by decide) (by decide) (by decide)
  have l2 := vL 202 (by decide) (by decide) (by decide)
  have l3 := vL 203 (by decide) (by decide) (by decide)
  have l5 := vL 205 (by decide) (by decide) (by decide)
  have l6 := vL 206 (by decide) (by decide) (by decide)
  have l7 := vL 207 (by decide) (by decide) (by decide)
  have hna : a ∉ mL M (A 204) := fun w => by have := (u.2.2.2 a w).1; omega
  have hag : ∀ x ∈ mL M (A 200), ∀ y2, fR M 100 x = some y2 → ∀ j, aI N y2 j = aI M y2 j := fun x hx y2 hy2 j => by
    obtain ⟨-, ⟨q', b2, b3, -⟩, -⟩ := g'.2.2 x hx
    rw [hy2] at b2; cases b2
    exact vA y2 j (by omega)
  have em := fun i => (p m (by rw [s.1]; decide)).2.1 i (fun z => z)
  refine ⟨⟨hS_of s p, hG_of g' p l0 hag (by simp) (by simp), ⟨by rw [v4]; exact nodup_snoc u.1 hna, by rw [v4, List.length_append]; show _ + 1 ≤ 3; omega, fun i x hx => ?_, fun x hx => ?_⟩, ⟨?_, fun j hj => by rw [vA _ _ (by rw [s.2.2.2.1]; decide)]; exact y.2 j hj⟩, hC_of cc s p l1 l0 (by simp), ⟨by rw [l5, h5]; decide, fun x hx => by rw [l5, h5] at hx; exact absurd hx List.not_mem_nil⟩, hL_of l p l2 l0 (by simp) (by simp), hR_of r l p l2 l3 (by simp), fun x hx => by rw [l6, h6] at hx; exact absurd hx List.not_mem_nil, hZ_of z p l7, ?_, ?_, ?_, nSold_of n4 s g' p l0 (by simp), nMisc_of n5 s p (by simp)⟩, vL, v4⟩
  · rw [v4] at hx
    rcases get_snoc hx with hx | ⟨hi, hx⟩
    · rw [(p x (by rw [(u.2.2.2 x (List.mem_of_getElem? hx)).1]; decide)).2.1 20 (fun z => z)]
      exact u.2.2.1 i x hx
    · rw [hx, hi, e3]
  · rw [v4] at hx
    rcases List.mem_append.mp hx with hx | hx
    · obtain ⟨b1, ⟨q2, b2, b3, b4⟩, b5⟩ := u.2.2.2 x hx
      obtain ⟨x1, x2, x3⟩ := p x (by omega)
      rw [x1, x2 21 (fun z => z), x2 24 (fun z => z), x2 25 (fun z => z), x2 23 (fun z => z), x2 26 (fun z => z)]
      exact ⟨b1, ⟨q2, by rw [x3, b2], by rw [(p q2 (by omega)).1, b3], fun j hj => by rw [vA q2 j (by omega)]; exact b4 j hj⟩, b5⟩
    · rw [List.mem_singleton] at hx
      rw [hx, e4, e5, e6, e7, e8]
      exact ⟨e1, ⟨q, e2, eq3, fun j hj => by rw [eq0 j hj]; decide⟩, hlat, ⟨by decide, by decide⟩, ⟨by decide, by decide⟩, by decide, by decide, by decide⟩
  · have m1 : (mL M (A 200)).map (rf N 100) = (mL M (A 200)).map (rf M 100) := List.map_congr_left (fun x hx => rf_of p (by rw [(g'.2.2 x hx).1]; decide))
    have m2 : (mL M (A 204)).map (rf N 22) = (mL M (A 204)).map (rf M 22) := List.map_congr_left (fun x hx => rf_of p (by rw [(u.2.2.2 x hx).1]; decide))
    have m3 : rf N 22 a = q := by unfold rf; rw [e2]; rfl
    have old : ∀ w ∈ (A 208 :: ((mL M (A 200)).map (rf M 100) ++ (mL M (A 204)).map (rf M 22))), w ≠ q := fun w hw hwq => by
      have hk : kd M w ≠ 0 := by
        rcases List.mem_cons.mp hw with hw | hw
        · rw [hw, s.2.2.2.1]; decide
        · rcases List.mem_append.mp hw with hw | hw
          · obtain ⟨x, hx, hx2⟩ := List.mem_map.mp hw
            obtain ⟨-, ⟨q2, b2, b3, -⟩, -⟩ := g'.2.2 x hx
            have : rf M 100 x = q2 := by unfold rf; rw [b2]; rfl
            rw [← hx2, this, b3]; decide
          · obtain ⟨x, hx, hx2⟩ := List.mem_map.mp hw
            obtain ⟨-, ⟨q2, b2, b3, -⟩, -⟩ := u.2.2.2 x hx
            have : rf M 22 x = q2 := by unfold rf; rw [b2]; rfl
            rw [← hx2, this, b3]; decide
      rw [hwq] at hk
      exact hk hq
    rw [v4, l0, List.map_append, m1, m2, List.map_cons, List.map_nil, m3, ← List.append_assoc]
    have hy := y.1
    have hp : (A 208 :: (((mL M (A 200)).map (rf M 100) ++ (mL M (A 204)).map (rf M 22)) ++ [q])).Perm (q :: (A 208 :: ((mL M (A 200)).map (rf M 100) ++ (mL M (A 204)).map (rf M 22)))) := List.perm_append_singleton q (A 208 :: ((mL M (A 200)).map (rf M 100) ++ (mL M (A 204)).map (rf M 22)))
    rw [hp.nodup_iff]
    exact List.nodup_cons.mpr ⟨fun w => old q w rfl, hy⟩
  · obtain ⟨k1, k2, k3, k4⟩ := n1
    have c1 : sz (fun x => iv (fI N 125 x)) (mL M (A 202)) = sz (fun x => iv (fI M 125 x)) (mL M (A 202)) := sz_congr _ (fun x hx => by rw [(p x (by rw [(l.2.2.2 x hx).1]; decide)).2.1 _ (fun z => z)])
    have c2 : sz (stk N) (mL M (A 204)) = sz (stk M) (mL M (A 204)) := sz_congr _ (fun b hb => by
      obtain ⟨b1, ⟨q2, b2, b3, -⟩, -⟩ := u.2.2.2 b hb
      have hq2 : rf M 22 b = q2 := by unfold rf; rw [b2]; rfl
      unfold stk
      rw [rf_of p (by omega), hq2, vA q2 0 (by omega), vA q2 1 (by omega), vA q2 2 (by omega)])
    have c3 : sz (stk N) [a] = 0 := by
      have m3 : rf N 22 a = q := by unfold rf; rw [e2]; rfl
      show stk N a + 0 = 0
      unfold stk
      rw [m3, eq0 0 (by decide), eq0 1 (by decide), eq0 2 (by decide)]
      decide
    unfold nStem
    rw [l2, l6, v4, sz_app, c1, c2, c3, em 215, h6]
    rw [h6] at k1
    have k1' : bound + iv (fI M 215 m) + sz (fun x => iv (fI M 125 x)) (mL M (A 202)) + sz (stk M) (mL M (A 204)) + 0 = cut := k1
    refine ⟨?_, k2, k3, k4⟩
    show bound + iv (fI M 215 m) + sz (fun x => iv (fI M 125 x)) (mL M (A 202)) + (sz (stk M) (mL M (A 204)) + 0) + 0 = cut
    omega
  · have c1 : sm (fI N 127) (mL M (A 202)) = sm (fI M 127) (mL M (A 202)) := sm_congr _ (fun x hx => (p x (by rw [(l.2.2.2 x hx).1]; decide)).2.1 _ (fun z => z))
    have c2 : sm (fI N 26) (mL M (A 204)) = sm (fI M 26) (mL M (A 204)) := sm_congr _ (fun x hx => (p x (by rw [(u.2.2.2 x hx).1]; decide)).2.1 _ (fun z => z))
    have c3 : sm (fI N 26) [a] = 0 := by show fI N 26 a + 0 = 0; rw [e8]; decide
    unfold nPail at n2 ⊢
    rw [l2, v4, sm_app, c1, c2, c3, em 212, Int32.add_zero]
    exact n2
  · have c1 : sm (fI N 23) (mL M (A 204)) = sm (fI M 23) (mL M (A 204)) := sm_congr _ (fun x hx => (p x (by rw [(u.2.2.2 x hx).1]; decide)).2.1 _ (fun z => z))
    have c2 : sm (fI N 101) (mL M (A 200)) = sm (fI M 101) (mL M (A 200)) := sm_congr _ (fun x hx => (p x (by rw [(g'.2.2 x hx).1]; decide)).2.1 _ (fun z => z))
    have c3 : sm (fI N 23) [a] = 2000 := by show fI N 23 a + 0 = 2000; rw [e5]; decide
    unfold nCoin at n3 ⊢
    rw [v4, l0, sm_app, c1, c2, c3, em 214, ← n3]
    generalize sm (fI M 23) (mL M (A 204)) = w1
    generalize sm (fI M 101) (mL M (A 200)) = w2
    generalize fI M 214 m = w3
    grind
theorem hI_plant {a g k : Nat} {i c pl : Int32} (h : hI m A cut bound K H 0 M) (h3 : (mL M (A 201)).length < 6) (ha : kd M a = 0) (hk : (mL M (A 200))[k]? = some g) (hik : i = nI k) (hc : 0 ≤ iv c ∧ iv c ≤ 2) : hI m A cut bound K H 0 (sL (eCrop (sN M a 5 0) a g i c pl) (A 201) (mL M (A 201) ++ [a])) ∧ (∀ i', 200 ≤ i' → i' ≤ 207 → i' ≠ 201 → mL (sL (eCrop (sN M a 5 0) a g i c pl) (A 201) (mL M (A 201) ++ [a])) (A i') = mL M (A i')) ∧ mL (sL (eCrop (sN M a 5 0) a g i c pl) (A 201) (mL M (A 201) ++ [a])) (A 201) = mL M (A 201) ++ [a] := by
  obtain ⟨s, g', u, y, cc, o, l, r, tt, z, n1, n2, n3, n4, n5⟩ := h
  generalize hN : sL (eCrop (sN M a 5 0) a g i c pl) (A 201) (mL M (A 201) ++ [a]) = N
  unfold eCrop at hN
  have p : pAg (fun _ => False) M N := fun x hx => by
    have xa : x ≠ a := fun w => hx (by rw [w]; exact ha)
    rw [← hN]
    exact ⟨by rw [kd_sL, kd_sI, kd_sI, kd_sI, kd_sR, kd_sN_ne xa], fun i _ => by rw [fI_sL, fI_sI_na _ _ _ _ _ _ xa, fI_sI_na _ _ _ _ _ _ xa, fI_sI_na _ _ _ _ _ _ xa, fI_sR, fI_sN_ne _ xa], fun i => by rw [fR_sL, fR_sI, fR_sI, fR_sI, fR_sR_na _ _ _ _ _ _ xa, fR_sN_ne _ xa]⟩
  have vA : ∀ x j, kd M x ≠ 0 → aI N x j = aI M x j := fun x j hx => by
    have xa : x ≠ a := fun w => hx (by rw [w]; exact ha)
    rw [← hN, aI_sL, aI_sI, aI_sI, aI_sI, aI_sR, aI_sN_ne xa]
  have vL : ∀ i, 200 ≤ i → i ≤ 207 → i ≠ 201 → mL N (A i) = mL M (A i) := fun i i1 i2 i3 => by
    rw [← hN, mL_sL_ne _ _ _ _ (s.ne ⟨i1, i2⟩ (by decide) i3), mL_sI, mL_sI, mL_sI, mL_sR, mL_sN_ne (kx_ne (s.2.2.1 i i1 i2) ha (by decide))]
  have v1 : mL N (A 201) = mL M (A 201) ++ [a] := by rw [← hN, mL_sL_eq]
  have ea : kd N a = 5 ∧ fR N 80 a = some g ∧ fI N 81 a = i ∧ fI N 82 a = c ∧ fI N 84 a = 0 ∧ fI N 85 a = 0 ∧ fI N 86 a = 0 := by
    rw [← hN]
    refine ⟨by rw [kd_sL, kd_sI, kd_sI, kd_sI, kd_sR, kd_sN], by rw [fR_sL, fR_sI, fR_sI, fR_sI, fR_sR_eq], by rw [fI_sL, fI_sI_ne _ _ _ _ _ _ (by decide), fI_sI_ne _ _ _ _ _ _ (by decide), fI_sI_eq], by rw [fI_sL, fI_sI_ne _ _ _ _ _ _ (by decide), fI_sI_eq], ?_, ?_, ?_⟩
    · rw [fI_sL, fI_sI_ne _ _ _ _ _ _ (by decide), fI_sI_ne _ _ _ _ _ _ (by decide), fI_sI_ne _ _ _ _ _ _ (by decide), fI_sR, fI_sN]
    · rw [fI_sL, fI_sI_ne _ _ _ _ _ _ (by decide), fI_sI_ne _ _ _ _ _ _ (by decide), fI_sI_ne _ _ _ _ _ _ (by decide), fI_sR, fI_sN]
    · rw [fI_sL, fI_sI_ne _ _ _ _ _ _ (by decide), fI_sI_ne _ _ _ _ _ _ (by decide), fI_sI_ne _ _ _ _ _ _ (by decide), fI_sR, fI_sN]
  obtain ⟨e1, e2, e3, e4, e5, e6, e7⟩ := ea
  have l0 := vL 200 (by decide) (by decide) (by decide)
  have l2 := vL 202 (by decide) (by decide) (by decide)
  have l3 := vL 203 (by decide) (by decide) (by decide)
  have l4 := vL 204 (by decide) (by decide) (by decide)
  have l5 := vL 205 (by decide) (by decide) (by decide)
  have l6 := vL 206 (by decide) (by decide) (by decide)
  have l7 := vL 207 (by decide) (by decide) (by decide)
  have hna : a ∉ mL M (A 201) := fun w => by have := (cc.2.2 a w).1; omega
  have hag : ∀ x ∈ mL M (A 200), ∀ y2, fR M 100 x = some y2 → ∀ j, aI N y2 j = aI M y2 j := fun x hx y2 hy2 j => by
    obtain ⟨-, ⟨q', b2, b3, -⟩, -⟩ := g'.2.2 x hx
    rw [hy2] at b2; cases b2
    exact vA y2 j (by omega)
  have hau : ∀ x ∈ mL M (A 204), ∀ y2, fR M 22 x = some y2 → ∀ j, aI N y2 j = aI M y2 j := fun x hx y2 hy2 j => by
    obtain ⟨-, ⟨q', b2, b3, -⟩, -⟩ := u.2.2.2 x hx
    rw [hy2] at b2; cases b2
    exact vA y2 j (by omega)
  have em := (p m (by rw [s.1]; decide)).2.1 210 (fun z => z)
  have n210 := n5.1.1
  refine ⟨⟨hS_of s p, hG_of g' p l0 hag (by simp) (by simp), hU_of u p l4 hau (by simp), hY_of y s g' u p l0 l4 (fun j => vA _ j (by rw [s.2.2.2.1]; decide)), ⟨by rw [v1]; exact nodup_snoc cc.1 hna, by rw [v1, List.length_append]; show _ + 1 ≤ 6; omega, fun x hx => ?_⟩, hO_of o p l5 l4 (by simp), hL_of l p l2 l0 (by simp) (by simp), hR_of r l p l2 l3 (by simp), hT_of tt p l6 l4 (by simp), hZ_of z p l7, nStem_of n1 s l u tt p l2 l4 l6 hau (by simp), nPail_of n2 s l u p l2 l4 (by simp), nCoin_of n3 s g' u p l0 l4 (by simp), nSold_of n4 s g' p l0 (by simp), nMisc_of n5 s p (by simp)⟩, vL, v1⟩
  rw [v1] at hx
  rcases List.mem_append.mp hx with hx | hx
  · obtain ⟨b1, b2, b3, b4, b5, b6⟩ := cc.2.2 x hx
    obtain ⟨x1, x2, x3⟩ := p x (by omega)
    rw [x1, x2 82 (fun z => z), x2 84 (fun z => z), x2 85 (fun z => z), x2 86 (fun z => z), em]
    exact ⟨b1, gLk_of p l0 (by omega) (fun z => z) b2, b3, b4, b5, b6⟩
  · rw [List.mem_singleton] at hx
    have hs := vSum_in c
    rw [hx, e4, e5, e6, e7, em, if_neg (fun w => absurd (iv_le.mp w) (by rw [iv_0]; omega))]
    exact ⟨e1, ⟨k, g, by rw [l0]; exact hk, by rw [e3]; exact hik, e2⟩, hc, ⟨by decide, n210⟩, ⟨by decide, by rw [iv_0]; omega⟩, rfl⟩
theorem hI_order {a b : Nat} {c gr sh mk lm w : Int32} (h : hI m A cut bound K H 0 M) (h3 : (mL M (A 205)).length < 9) (ha : kd M a = 0) (hb : b ∈ mL M (A 204)) (hlm : 1 ≤ iv lm ∧ iv lm ≤ 99) : hI m A cut bound K H 0 (sL (eOrd (sN M a 8 0) a b c gr sh mk lm w) (A 205) (mL M (A 205) ++ [a])) ∧ (∀ i', 200 ≤ i' → i' ≤ 207 → i' ≠ 205 → mL (sL (eOrd (sN M a 8 0) a b c gr sh mk lm w) (A 205) (mL M (A 205) ++ [a])) (A i') = mL M (A i')) ∧ mL (sL (eOrd (sN M a 8 0) a b c gr sh mk lm w) (A 205) (mL M (A 205) ++ [a])) (A 205) = mL M (A 205) ++ [a] := by
  obtain ⟨s, g', u, y, cc, o, l, r, tt, z, n1, n2, n3, n4, n5⟩ := h
  generalize hN : sL (eOrd (sN M a 8 0) a b c gr sh mk lm w) (A 205) (mL M (A 205) ++ [a]) = N
  unfold eOrd at hN
  have p : pAg (fun _ => False) M N := fun x hx => by
    have xa : x ≠ a := fun w => hx (by rw [w]; exact ha)
    rw [← hN]
    exact ⟨by rw [kd_sL, kd_sI, kd_sI, kd_sI, kd_sI, kd_sI, kd_sI, kd_sR, kd_sN_ne xa], fun i _ => by rw [fI_sL, fI_sI_na _ _ _ _ _ _ xa, fI_sI_na _ _ _ _ _ _ xa, fI_sI_na _ _ _ _ _ _ xa, fI_sI_na _ _ _ _ _ _ xa, fI_sI_na _ _ _ _ _ _ xa, fI_sI_na _ _ _ _ _ _ xa, fI_sR, fI_sN_ne _ xa], fun i => by rw [fR_sL, fR_sI, fR_sI, fR_sI, fR_sI, fR_sI, fR_sI, fR_sR_na _ _ _ _ _ _ xa, fR_sN_ne _ xa]⟩
  have vA : ∀ x j, kd M x ≠ 0 → aI N x j = aI M x j := fun x j hx => by
    have xa : x ≠ a := fun w => hx (by rw [w]; exact ha)
    rw [← hN, aI_sL, aI_sI, aI_sI, aI_sI, aI_sI, aI_sI, aI_sI, aI_sR, aI_sN_ne xa]
  have vL : ∀ i, 200 ≤ i → i ≤ 207 → i ≠ 205 → mL N (A i) = mL M (A i) := fun i i1 i2 i3 => by
    rw [← hN, mL_sL_ne _ _ _ _ (s.ne ⟨i1, i2⟩ (by decide) i3), mL_sI, mL_sI, mL_sI, mL_sI, mL_sI, mL_sI, mL_sR, mL_sN_ne (kx_ne (s.2.2.1 i i1 i2) ha (by decide))]
  have v5 : mL N (A 205) = mL M (A 205) ++ [a] := by rw [← hN, mL_sL_eq]
  have ea : kd N a = 8 ∧ fR N 140 a = some b ∧ fI N 145 a = lm := by
    rw [← hN]
    exact ⟨by rw [kd_sL, kd_sI, kd_sI, kd_sI, kd_sI, kd_sI, kd_sI, kd_sR, kd_sN], by rw [fR_sL, fR_sI, fR_sI, fR_sI, fR_sI, fR_sI, fR_sI, fR_sR_eq], by rw [fI_sL, fI_sI_ne _ _ _ _ _ _ (by decide), fI_sI_eq]⟩
  obtain ⟨e1, e2, e3⟩ := ea
  have l0 := vL 200 (by decide) (by decide) (by decide)
  have l1 := vL 201 (by decide) (by decide) (by decide)
  have l2 := vL 202 (by decide) (by decide) (by decide)
  have l3 := vL 203 (by decide) (by decide) (by decide)
  have l4 := vL 204 (by decide) (by decide) (by decide)
  have l6 := vL 206 (by decide) (by decide) (by decide)
  have l7 := vL 207 (by decide) (by decide) (by decide)
  have hag : ∀ x ∈ mL M (A 200), ∀ y2, fR M 100 x = some y2 → ∀ j, aI N y2 j = aI M y2 j := fun x hx y2 hy2 j => by
    obtain ⟨-, ⟨q', b2, b3, -⟩, -⟩ := g'.2.2 x hx
    rw [hy2] at b2; cases b2
    exact vA y2 j (by omega)
  have hau : ∀ x ∈ mL M (A 204), ∀ y2, fR M 22 x = some y2 → ∀ j, aI N y2 j = aI M y2 j := fun x hx y2 hy2 j => by
    obtain ⟨-, ⟨q', b2, b3, -⟩, -⟩ := u.2.2.2 x hx
    rw [hy2] at b2; cases b2
    exact vA y2 j (by omega)
  refine ⟨⟨hS_of s p, hG_of g' p l0 hag (by simp) (by simp), hU_of u p l4 hau (by simp), hY_of y s g' u p l0 l4 (fun j => vA _ j (by rw [s.2.2.2.1]; decide)), hC_of cc s p l1 l0 (by simp), ⟨by rw [v5, List.length_append]; show _ + 1 ≤ 9; omega, fun x hx => ?_⟩, hL_of l p l2 l0 (by simp) (by simp), hR_of r l p l2 l3 (by simp), hT_of tt p l6 l4 (by simp), hZ_of z p l7, nStem_of n1 s l u tt p l2 l4 l6 hau (by simp), nPail_of n2 s l u p l2 l4 (by simp), nCoin_of n3 s g' u p l0 l4 (by simp), nSold_of n4 s g' p l0 (by simp), nMisc_of n5 s p (by simp)⟩, vL, v5⟩
  rw [v5] at hx
  rcases List.mem_append.mp hx with hx | hx
  · obtain ⟨b1, ⟨bb, b2, b3⟩, b4⟩ := o.2 x hx
    obtain ⟨x1, x2, x3⟩ := p x (by omega)
    rw [x1, x2 145 (fun z => z), x3, l4]
    exact ⟨b1, ⟨bb, b2, b3⟩, b4⟩
  · rw [List.mem_singleton] at hx
    rw [hx, e1, e2, e3, l4]
    exact ⟨rfl, ⟨b, hb, rfl⟩, hlm⟩
end SU
