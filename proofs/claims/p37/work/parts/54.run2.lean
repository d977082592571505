section RT
variable {r : Nat} {l : List Nat}
theorem eTake_147 (N : kx_M) (r o x : Nat) (t p : Int32) : fI (eTake N r o t p) 147 x = if x = o then fI N 147 o - t else fI N 147 x := by
  unfold eTake; simp only [fI_set, Nat.reduceEqDiff, false_and, if_false, true_and]
theorem eTake_28 (N : kx_M) (r o x : Nat) (t p : Int32) : fI (eTake N r o t p) 28 x = if x = rf N 140 o then fI N 28 (rf N 140 o) - (p * t + 2 * vMin (vBuckets t) (fI N 67 r)) else fI N 28 x := by
  unfold eTake; simp only [fI_set, Nat.reduceEqDiff, false_and, if_false, true_and]
theorem eTake_66 (N : kx_M) (r o : Nat) (t p : Int32) : fI (eTake N r o t p) 66 r = fI N 66 r - t := by
  unfold eTake; simp only [fI_set, Nat.reduceEqDiff, false_and, if_false, true_and, if_true, and_self]
theorem eTake_67 (N : kx_M) (r o : Nat) (t p : Int32) : fI (eTake N r o t p) 67 r = fI N 67 r - vMin (vBuckets t) (fI N 67 r) := by
  unfold eTake; simp only [fI_set, Nat.reduceEqDiff, false_and, if_false, true_and, if_true, and_self]
theorem eTake_65 (N : kx_M) (r o : Nat) (t p : Int32) : fI (eTake N r o t p) 65 r = vMin 99 (p + 10) := by
  unfold eTake; simp only [fI_set, Nat.reduceEqDiff, false_and, if_false, true_and, if_true, and_self]
theorem eTake_o {N : kx_M} {r o : Nat} {t p : Int32} (i x : Nat) (h : i ≠ 28 ∧ i ≠ 147 ∧ i ≠ 65 ∧ i ≠ 66 ∧ i ≠ 67 ∧ i ≠ 68 ∧ i ≠ 69) : fI (eTake N r o t p) i x = fI N i x := by
  obtain ⟨h1, h2, h3, h4, h5, h6, h7⟩ := h
  unfold eTake; simp only [fI_set, h1, h2, h3, h4, h5, h6, h7, false_and, if_false]
theorem eTake_rf (N : kx_M) (r o : Nat) (t p : Int32) (i x : Nat) : rf (eTake N r o t p) i x = rf N i x := by
  unfold eTake rf; simp only [fR_sI]
theorem eTake_pz (N : kx_M) (r o : Nat) (t p : Int32) (x : Nat) : pz (eTake N r o t p) x = pz N x := by
  unfold pz; rw [eTake_rf, eTake_o 145 _ (by decide), eTake_o 29 _ (by decide)]
theorem filt_le {p q : Nat → Bool} : ∀ (k : List Nat), (∀ x ∈ k, p x = true → q x = true) → (k.filter p).length ≤ (k.filter q).length := by
  intro k
  induction k with
  | nil => intro _; exact Nat.le_refl _
  | cons x k ih =>
    intro h
    have h1 := ih (fun y hy => h y (List.mem_cons_of_mem _ hy))
    have h2 := h x List.mem_cons_self
    rw [List.filter_cons, List.filter_cons]
    cases hp : p x with
    | true => rw [if_pos rfl, if_pos (h2 hp), List.length_cons, List.length_cons]; omega
    | false =>
      rw [if_neg (by decide)]
      split
      · rw [List.length_cons]; omega
      · exact h1
theorem filt_lt {p q : Nat → Bool} : ∀ (k : List Nat), (∀ x ∈ k, p x = true → q x = true) → ∀ o ∈ k, q o = true → p o = false → (k.filter p).length < (k.filter q).length := by
  intro k
  induction k with
  | nil => intro _ o ho; exact absurd ho List.not_mem_nil
  | cons x k ih =>
    intro h o ho hq hp
    have h0 : ∀ y ∈ k, p y = true → q y = true := fun y hy => h y (List.mem_cons_of_mem _ hy)
    have h2 := h x List.mem_cons_self
    rw [List.filter_cons, List.filter_cons]
    rcases List.mem_cons.mp ho with rfl | hk
    · rw [if_neg (by rw [hp]; decide), if_pos hq, List.length_cons]
      have := filt_le k h0
      omega
    · have h1 := ih h0 o hk hq hp
      cases hp' : p x with
      | true => rw [if_pos rfl, if_pos (h2 hp'), List.length_cons, List.length_cons]; omega
      | false =>
        rw [if_neg (by decide)]
        split
        · rw [List.length_cons]; omega
        · exact h1
/-- behind a sale found: bounds, and one order less that can take -/
theorem vNext_aft {n : Nat} {N N2 : kx_M} {o : Nat} (hb : hB r l N) (h : vNext r l n N = (some o, N2)) : hB r l N2 ∧ vCnt N2 r l < vCnt N r l ∧ fI N2 64 r = fI N 64 r ∧ fI N2 66 r = fI N 66 r - fI N2 68 r ∧ fI N2 67 r = fI N 67 r - vMin (vBuckets (fI N2 68 r)) (fI N 67 r) ∧ (∀ x, fI N2 147 x = if x = o then fI N 147 o - fI N2 68 r else fI N 147 x) ∧ ∀ x, fI N2 28 x = if x = rf N 140 o then fI N 28 (rf N 140 o) - (fI N2 69 r * fI N2 68 r + 2 * vMin (vBuckets (fI N2 68 r)) (fI N 67 r)) else fI N 28 x := by
  obtain ⟨ho, ⟨K, k1, k2⟩, n1, n2, n3, n4, n5, n6, n7, n8, n9, n10⟩ := vNext_num hb h
  generalize ht : fI N2 68 r = t at *
  generalize hp : fI N2 69 r = p at *
  have e65 : fI N2 65 r = vMin 99 (p + 10) := by rw [k2, eTake_65]
  have e66 : fI N2 66 r = fI N 66 r - t := by rw [k2, eTake_66, k1.2.1 66 _ (by decide)]
  have e67 : fI N2 67 r = fI N 67 r - vMin (vBuckets t) (fI N 67 r) := by rw [k2, eTake_67, k1.2.1 67 _ (by decide)]
  have e147 : ∀ x, fI N2 147 x = if x = o then fI N 147 o - t else fI N 147 x := fun x => by rw [k2, eTake_147, k1.2.1 147 o (by decide), k1.2.1 147 x (by decide)]
  have e28 : ∀ x, fI N2 28 x = if x = rf N 140 o then fI N 28 (rf N 140 o) - (p * t + 2 * vMin (vBuckets t) (fI N 67 r)) else fI N 28 x := fun x => by rw [k2, eTake_28, k1.rfe, k1.2.1 28 _ (by decide), k1.2.1 28 x (by decide), k1.2.1 67 r (by decide)]
  have e64 : fI N2 64 r = fI N 64 r := by rw [k2, eTake_64, k1.2.1 64 _ (by decide)]
  have e145 : ∀ x, fI N2 145 x = fI N 145 x := fun x => by rw [k2, eTake_o 145 x (by decide), k1.2.1 145 x (by decide)]
  have e29 : ∀ x, fI N2 29 x = fI N 29 x := fun x => by rw [k2, eTake_o 29 x (by decide), k1.2.1 29 x (by decide)]
  have erf : ∀ i x, rf N2 i x = rf N i x := fun i x => by rw [k2, eTake_rf, k1.rfe]
  have epz : ∀ x, pz N2 x = pz N x := fun x => by rw [k2, eTake_pz, k1.pze]
  obtain ⟨b1, b2, b3, b4, b5, b6⟩ := hb
  obtain ⟨a1, a2, a3, a4, a5, a6⟩ := b6 o ho
  have hbk : iv (vBuckets t) = (iv t + 19) / 20 := iv_vBuckets (by omega)
  have hk : iv (vMin (vBuckets t) (fI N 67 r)) = if iv (fI N 67 r) < (iv t + 19) / 20 then iv (fI N 67 r) else (iv t + 19) / 20 := by rw [iv_vMin, hbk]
  generalize vMin (vBuckets t) (fI N 67 r) = k at *
  have hk0 : 0 ≤ iv k ∧ iv k ≤ iv (fI N 67 r) := by split at hk <;> omega
  have h2k : iv (2 * k) = 2 * iv k := by rw [iv_mul (by rw [iv_2]; omega) (by rw [iv_2]; omega), iv_2]
  have hpt : iv (p * t + 2 * k) = iv p * iv t + 2 * iv k := by
    rw [iv_add (by rw [n8, h2k]; have := Int.mul_nonneg (a := iv p) (b := iv t) (by omega) (by omega); omega) (by rw [n8, h2k]; omega), n8, h2k]
  have hnn : 0 ≤ iv p * iv t := Int.mul_nonneg (by omega) (by omega)
  have hpn : iv (fI N 28 (rf N 140 o) - (p * t + 2 * k)) = iv (fI N 28 (rf N 140 o)) - (iv p * iv t + 2 * iv k) := by
    rw [iv_sub (by rw [hpt]; omega) (by rw [hpt]; omega), hpt]
  have h66 : iv (fI N 66 r - t) = iv (fI N 66 r) - iv t := iv_sub (by omega) (by omega)
  have h67 : iv (fI N 67 r - k) = iv (fI N 67 r) - iv k := iv_sub (by omega) (by omega)
  have h147 : iv (fI N 147 o - t) = iv (fI N 147 o) - iv t := by
    have := iv_hi (fI N 147 o)
    exact iv_sub (by omega) (by omega)
  have h65 : iv (vMin 99 (p + 10)) = if iv p + 10 < 99 then iv p + 10 else 99 := by
    rw [iv_vMin, iv_add (by rw [iv_10]; omega) (by rw [iv_10]; omega), iv_10, iv_99]
  refine ⟨⟨?_, ?_, ?_, ?_, ?_, fun x hx => ?_⟩, ?_, e64, e66, e67, e147, e28⟩
  · rw [e65, h65]; split <;> omega
  · rw [e65, h65]; split <;> omega
  · rw [e67, h67]; omega
  · rw [e67, h67]; omega
  · rw [e66, h66]; omega
  · obtain ⟨c1, c2, c3, c4, c5, c6⟩ := b6 x hx
    rw [e145, erf, e29, e28]
    refine ⟨c1, c2, c3, c4, ?_, ?_⟩
    · split
      · rw [hpn]; omega
      · exact c5
    · split
      · rw [hpn]; omega
      · exact c6
  · refine filt_lt l (fun x hx => ?_) o ho ?_ ?_
    · unfold vAl
      rw [epz, erf, e147, e66, h66, e28]
      simp only [Bool.and_eq_true, decide_eq_true_eq]
      rintro ⟨d1, d2, d3⟩
      refine ⟨?_, by omega, ?_⟩
      · split at d1
        · rename_i hxo
          rw [hxo]; omega
        · exact d1
      · split at d3
        · rename_i hxo
          rw [hpn] at d3
          rw [hxo]; omega
        · exact d3
    · unfold vAl
      simp only [Bool.and_eq_true, decide_eq_true_eq]
      have hge : iv p ≤ iv p * iv t := by
        have := Int.mul_le_mul_of_nonneg_left (a := 1) (b := iv t) (c := iv p) n5 (by omega)
        omega
      exact ⟨by omega, by omega, by omega⟩
    · unfold vAl
      rw [epz, erf, e147, e66, h66, e28, if_pos rfl, if_pos rfl, h147, hpn]
      rw [Bool.eq_false_iff]
      intro z
      simp only [Bool.and_eq_true, decide_eq_true_eq] at z
      omega
/-- what a run's sales come to: stems, and the grower's shares -/
def vTot (r : Nat) (l : List Nat) : Nat → kx_M → Int32 × Int32
  | 0, _ => (0, 0)
  | n + 1, N => match vNext r l 5 N with
    | (none, _) => (0, 0)
    | (some _, N2) => ((vTot r l n N2).1 + fI N2 68 r, (vTot r l n N2).2 + vShare (fI N2 69 r * fI N2 68 r))
/-- no price of a run is below mn -/
def vAllGe (r : Nat) (l : List Nat) (mn : Int32) : Nat → kx_M → Prop
  | 0, _ => True
  | n + 1, N => match vNext r l 5 N with
    | (none, _) => True
    | (some _, N2) => mn ≤ fI N2 69 r ∧ vAllGe r l mn n N2
theorem vTot_n {n : Nat} {N N2 : kx_M} (h : vNext r l 5 N = (none, N2)) : vTot r l n N = (0, 0) := by
  cases n with
  | zero => exact (Eq.refl _)
  | succ n => conv => lhs; unfold vTot
              rw [h]
theorem vTot_s {n : Nat} {N N2 : kx_M} {o : Nat} (h : vNext r l 5 N = (some o, N2)) : vTot r l (n + 1) N = ((vTot r l n N2).1 + fI N2 68 r, (vTot r l n N2).2 + vShare (fI N2 69 r * fI N2 68 r)) := by
  conv => lhs; unfold vTot
  rw [h]
theorem vAllGe_s {n : Nat} {N N2 : kx_M} {o : Nat} {mn : Int32} (h : vNext r l 5 N = (some o, N2)) : vAllGe r l mn (n + 1) N = (mn ≤ fI N2 69 r ∧ vAllGe r l mn n N2) := by
  conv => lhs; unfold vAllGe
  rw [h]
theorem vAllGe_n {n : Nat} {N N2 : kx_M} {mn : Int32} (h : vNext r l 5 N = (none, N2)) : vAllGe r l mn n N := by
  cases n with
  | zero => exact True.intro
  | succ n =>
    unfold vAllGe
    rw [h]
    exact True.intro
theorem vAllGe_mono {mn mn' : Int32} (hm : mn' ≤ mn) : ∀ (n n' : Nat) (N : kx_M), n' ≤ n → vAllGe r l mn n N → vAllGe r l mn' n' N := by
  intro n
  induction n with
  | zero => intro n' N hn _; have : n' = 0 := by omega
            subst this; exact True.intro
  | succ n ih =>
    intro n' N hn h
    cases n' with
    | zero => exact True.intro
    | succ n' =>
      cases hv : vNext r l 5 N with
      | mk o N2 =>
        cases o with
        | none => exact vAllGe_n hv
        | some o =>
          rw [vAllGe_s hv] at h ⊢
          exact ⟨Int32.le_trans hm h.1, ih n' N2 (by omega) h.2⟩
/-- a run's own minimum -/
theorem vAllGe_own : ∀ (n : Nat) (N : kx_M), hB r l N → vAllGe r l (fI N 64 r) n N := by
  intro n
  induction n with
  | zero => intro N _; exact True.intro
  | succ n ih =>
    intro N hb
    cases hv : vNext r l 5 N with
    | mk o N2 =>
      cases o with
      | none => exact vAllGe_n hv
      | some o =>
        have h1 := (vNext_num hb hv).2.2.2.2.2.1
        obtain ⟨h2, -, h3, -⟩ := vNext_aft hb hv
        rw [vAllGe_s hv, ← h3]
        rw [← h3] at h1
        exact ⟨h1, ih N2 h2⟩
/-- the lowest price -/
theorem vLow_spec {M : kx_M} {m : Nat} (hr : rf M 209 m = r) (hl : mL M (rf M 205 m) = l) : ∀ (n : Nat) (x : Int32) (N : kx_M), hB r l N → 1 ≤ iv x → 1 ≤ iv (vLow M m n x N).1 ∧ (vLow M m n x N).1 ≤ x ∧ vAllGe r l (vLow M m n x N).1 n N := by
  intro n
  induction n with
  | zero => intro x N hb hx; exact ⟨hx, Int32.le_refl x, True.intro⟩
  | succ n ih =>
    intro x N hb hx
    have hT : vTake1 M m N = vNext r l 5 N := by unfold vTake1; rw [hr, hl]
    cases hv : vNext r l 5 N with
    | mk o N2 =>
      cases o with
      | none =>
        have e : vLow M m (n + 1) x N = (x, N2) := by
          conv => lhs; unfold vLow
          rw [hT, hv]
        rw [e]
        exact ⟨hx, Int32.le_refl x, vAllGe_n hv⟩
      | some o =>
        have e : vLow M m (n + 1) x N = vLow M m n (vMin x (fI N2 69 r)) N2 := by
          conv => lhs; unfold vLow
          rw [hT, hv, hr]
        obtain ⟨-, -, -, p1, p2, -⟩ := vNext_num hb hv
        obtain ⟨h2, -⟩ := vNext_aft hb hv
        have hmin := iv_vMin x (fI N2 69 r)
        obtain ⟨i1, i2, i3⟩ := ih (vMin x (fI N2 69 r)) N2 h2 (by rw [hmin]; split <;> omega)
        rw [iv_le, hmin] at i2
        rw [e, vAllGe_s hv, iv_le, iv_le]
        refine ⟨i1, ?_, ?_, i3⟩
        · split at i2 <;> omega
        · split at i2 <;> omega
theorem vLow_first {M : kx_M} {m : Nat} (hr : rf M 209 m = r) (hl : mL M (rf M 205 m) = l) {n : Nat} {x : Int32} {N N2 : kx_M} {o : Nat} (hb : hB r l N) (hx : 1 ≤ iv x) (hv : vNext r l 5 N = (some o, N2)) : (vLow M m (n + 1) x N).1 ≤ fI N2 69 r := by
  have h := (vLow_spec hr hl (n + 1) x N hb hx).2.2
  rw [vAllGe_s hv] at h
  exact h.1
theorem vLow_none {M : kx_M} {m : Nat} (hr : rf M 209 m = r) (hl : mL M (rf M 205 m) = l) {n : Nat} {x : Int32} {N N2 : kx_M} (hv : vNext r l 5 N = (none, N2)) : (vLow M m n x N).1 = x := by
  cases n with
  | zero => exact (Eq.refl x)
  | succ n =>
    have hT : vTake1 M m N = vNext r l 5 N := by unfold vTake1; rw [hr, hl]
    conv => lhs; unfold vLow
    rw [hT, hv]
/-- what a step of a run with a greater minimum says of the run -/
theorem vNext_rel {W N : kx_M} {n : Nat} (hG : aG r l W N) (hb : hB r l W) (hm : fI W 64 r ≤ fI N 64 r) (hA : vAllGe r l (fI N 64 r) n W) (hc : vCnt W r l ≤ n) : (∀ N2, vNext r l 5 N = (none, N2) → ∃ W2, vNext r l 5 W = (none, W2)) ∧ ∀ o N2, vNext r l 5 N = (some o, N2) → ∃ k W2, n = k + 1 ∧ vNext r l 5 W = (some o, W2) ∧ aG r l W2 N2 ∧ fI N2 68 r = fI W2 68 r ∧ fI N2 69 r = fI W2 69 r ∧ fI N2 64 r = fI N 64 r ∧ fI W2 64 r = fI W 64 r ∧ vAllGe r l (fI N 64 r) k W2 ∧ vCnt W2 r l ≤ k ∧ hB r l W2 := by
  obtain ⟨g1, g2⟩ := vNext_min 5 W N hG hb hm
  cases hv : vNext r l 5 W with
  | mk oo W2 =>
    cases oo with
    | none =>
      refine ⟨fun N2 _ => ⟨W2, rfl⟩, fun o N2 h => ?_⟩
      have := g1 W2 hv
      rw [h] at this
      cases this
    | some x =>
      obtain ⟨h2, h3, -⟩ := vNext_aft hb hv
      obtain ⟨k, hk⟩ : ∃ k, n = k + 1 := ⟨n - 1, by omega⟩
      rw [hk, vAllGe_s hv] at hA
      obtain ⟨N2', e1, e2, e3, e4, e5, e6⟩ := g2 x W2 hv hA.1
      refine ⟨fun N2 h => ?_, fun o N2 h => ?_⟩
      · rw [e1] at h; cases h
      · rw [e1] at h
        cases h
        exact ⟨k, W2, hk, rfl, e2, e3, e4, e5, e6, hA.2, by omega, h2⟩
end RT
