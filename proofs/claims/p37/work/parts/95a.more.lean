theorem ln_eBook0 (M : kx_M) (m t b g : Nat) (st bk pd sh : Int32) : ln (eBook0 M m t b g st bk pd sh) = ln M := by unfold eBook0; simp only [ln_sI]
theorem ln_eBook (M : kx_M) (m t b g : Nat) (oo : Option Nat) (st bk pd sh : Int32) : ln (eBook M m t b g oo st bk pd sh) = ln M := by
  cases oo with
  | none => exact ln_eBook0 _ _ _ _ _ _ _ _ _
  | some o => exact (ln_sI _ _ _ _).trans (ln_eBook0 _ _ _ _ _ _ _ _ _)
theorem kd_eTakeBack (P : kx_M) (m t b g : Nat) (oo : Option Nat) (st bk pd sh : Int32) (tl : Nat) : kd (eTakeBack P m t b g oo st bk pd sh tl) = kd P := by
  have b1 := kd_eBook P m t b g oo st bk pd sh
  unfold eTakeBack
  generalize eBook P m t b g oo st bk pd sh = B at *
  dsimp only
  split
  · split
    · exact (kd_sI _ _ _ _).trans b1
    · exact b1
  · rw [kd_sL]
    split
    · exact (kd_sI _ _ _ _).trans b1
    · exact b1
theorem ln_eTakeBack (P : kx_M) (m t b g : Nat) (oo : Option Nat) (st bk pd sh : Int32) (tl : Nat) : ln (eTakeBack P m t b g oo st bk pd sh tl) = ln P := by
  have b1 := ln_eBook P m t b g oo st bk pd sh
  unfold eTakeBack
  generalize eBook P m t b g oo st bk pd sh = B at *
  dsimp only
  split
  · split
    · exact (ln_sI _ _ _ _).trans b1
    · exact b1
  · rw [ln_sL]
    split
    · exact (ln_sI _ _ _ _).trans b1
    · exact b1
theorem kd_eUndo (M : kx_M) (m t b g : Nat) (oo : Option Nat) (st pr bk : Int32) (tl sl : Nat) : kd (eUndo M m t b g oo st pr bk tl sl) = kd M := by
  unfold eUndo
  exact (kd_eTakeBack _ _ _ _ _ _ _ _ _ _ _).trans (kd_sL _ _ _)
theorem ln_eUndo (M : kx_M) (m t b g : Nat) (oo : Option Nat) (st pr bk : Int32) (tl sl : Nat) : ln (eUndo M m t b g oo st pr bk tl sl) = ln M := by
  unfold eUndo
  exact (ln_eTakeBack _ _ _ _ _ _ _ _ _ _ _).trans (ln_sL _ _ _)
theorem ln_eSold (N : kx_M) (t : Nat) : ln (eSold N t) = ln N := by unfold eSold; split <;> simp only [ln_sI]
theorem ln_eSell {M : kx_M} {m t b g : Nat} {oo : Option Nat} {st pr : Int32} {tl sl a q x : Nat} (hxa : x ≠ a) (hxq : x ≠ q) : ln (eSell M m t b g oo st pr tl sl a q) x = ln M x := by
  unfold eSell eKeep eSell2 eSell1 eTro eSale
  simp only [ln_sL, ln_sI, ln_sR, ln_sN_ne hxq, ln_eSold, ln_eBook, ln_sN_ne hxa]
section MR
variable {m : Nat} {A : Nat → Nat} {cut bound : Int} {K : Int32} {H : Int} {M : kx_M} {e : Nat}
theorem hI_sN (h : hI m A cut bound K H e M) {a n : Nat} (ha : kd M a = 0) : hI m A cut bound K H e (sN M a 20 n) ∧ pAg (fun _ => False) M (sN M a 20 n) ∧ ∀ i, 200 ≤ i → i ≤ 207 → mL (sN M a 20 n) (A i) = mL M (A i) := by
  have hma : ∀ x, kd M x ≠ 0 → x ≠ a := fun x hx z => hx (by rw [z]; exact ha)
  have p0 : pAg (fun _ => False) M (sN M a 20 n) := fun x hx => ⟨kd_sN_ne (hma x hx), fun i _ => fI_sN_ne i (hma x hx), fun i => fR_sN_ne i (hma x hx)⟩
  have hl0 : ∀ i, 200 ≤ i → i ≤ 207 → mL (sN M a 20 n) (A i) = mL M (A i) := fun i i1 i2 => mL_sN_ne (hma _ (by rw [h.1.2.2.1 i i1 i2]; decide))
  exact ⟨hI_free h p0 hl0 (fun x j hx => congrFun (aI_sN_ne (hma x (by omega))) j) (fun i _ z => z), p0, hl0⟩
theorem hI_rd (h : hI m A cut bound K H e M) {a : Nat} (ha : kd M a = 20) (f : Nat → Int32) (k : Nat) : hI m A cut bound K H e (eRd M a f k) := by
  obtain ⟨a1, a2, a3, a4, a5, a6, a7⟩ := eRd_o M a f k
  exact hI_free h (F := fun _ => False) (fun x hx => ⟨by rw [a1], fun i _ => by rw [a2], fun i => by rw [a3]⟩) (fun i _ _ => by rw [a4]) (fun x j hx => a6 x j (fun z => by rw [z, ha] at hx; exact absurd hx (by decide))) (fun i _ z => z)
end MR
theorem Bs_sN {m t g tl sl : Nat} {M0 N : kx_M} {Es : List kx_E1} (h : Bs m t g tl sl M0 Es N) {a k n : Nat} (ha : kd N a = 0) (htl : kd M0 tl = 1) (hsl : kd M0 sl = 1) : Bs m t g tl sl M0 Es (sN N a k n) := by
  obtain ⟨h1, h2, h3, h4, h5, h6⟩ := h
  have ne : ∀ x, kd M0 x ≠ 0 → x ≠ a := fun x hx z => hx (by rw [← (h1 x hx).1, z]; exact ha)
  refine ⟨fun x hx => ?_, fun x a1 b1 c1 => ?_, ?_, ?_, fun e he => ?_, h6⟩
  · obtain ⟨a1, a2, a3, a4, a5⟩ := h1 x hx
    have hn := ne x hx
    exact ⟨by rw [kd_sN_ne hn]; exact a1, fun i i1 i2 => by rw [fI_sN_ne i hn]; exact a2 i i1 i2, fun w => by rw [fI_sN_ne 129 hn]; exact a3 w, fun i => by rw [fR_sN_ne i hn]; exact a4 i, fun j => by rw [aI_sN_ne hn]; exact a5 j⟩
  · rw [mL_sN_ne (ne x (by omega))]; exact h2 x a1 b1 c1
  · rw [mL_sN_ne (ne tl (by omega))]; exact h3
  · rw [mL_sN_ne (ne sl (by omega))]; exact h4
  · obtain ⟨a1, a2, a3, a4, a5, a6, a7, a8, a9⟩ := h5 e he
    have hn : eS e ≠ a := fun z => by rw [z, ha] at a1; exact absurd a1 (by decide)
    exact ⟨by rw [kd_sN_ne hn]; exact a1, by rw [fR_sN_ne _ hn]; exact a2, by rw [fR_sN_ne _ hn]; exact a3, by rw [fR_sN_ne _ hn]; exact a4, by rw [fI_sN_ne _ hn]; exact a5, by rw [fI_sN_ne _ hn]; exact a6, by rw [fI_sN_ne _ hn]; exact a7, by rw [fI_sN_ne _ hn]; exact a8, a9⟩
section UD2
variable {m : Nat} {A : Nat → Nat} {cut bound : Int} {K : Int32} {H : Int} {M : kx_M}
theorem h_presell2 (E : kx_E) {t g b : Nat} {i j st pr : Int32} (h : hI m A cut bound K H 0 M) (hi0 : 0 ≤ i) (hi1 : i < Int32.ofNat (mL M (A 202)).length) (hi : (mL M (A 202))[i.toNatClampNeg]? = some t) (hj0 : 0 ≤ j) (hj1 : j < Int32.ofNat (mL M (A 204)).length) (hj : (mL M (A 204))[j.toNatClampNeg]? = some b) (hg : fR M 121 t = some g) (hgg : g ∈ mL M (A 200)) (h1 : 1 ≤ iv st) (hp : 1 ≤ iv pr ∧ iv pr ≤ 99) (h0 : fI M 129 t = 0) (h2 : iv st ≤ iv (fI M 125 t)) (h3 : iv (pr * st) = iv pr * iv st) (h4 : iv (pr * st) ≤ iv (fI M 23 b)) : c2t_X9_presell E [.ref m, .int i, .int j, .int st, .int pr] M 4 3011 (fun v N => v = some (.int (vShare (pr * st))) ∧ ∃ a k, hI m A cut bound K H 0 N ∧ Bs m t g (A 206) (A 207) M [(a, b, none, st, pr, k)] N ∧ 0 ≤ iv k ∧ iv k ≤ 3 ∧ (fI N 129 t = 0 ∨ fI N 129 t = 2) ∧ ∀ x, kd M x ≠ 0 → ln N x = ln M x) := by
  have s := h.1
  have ht : t ∈ mL M (A 202) := List.mem_of_getElem? hi
  have hb : b ∈ mL M (A 204) := List.mem_of_getElem? hj
  obtain ⟨t1, t2, t3, t4, t5, t6, t7⟩ := h.2.2.2.2.2.2.1.2.2.2 t ht
  obtain ⟨u1, u2, u3, u4, u5, u6, u7, u8⟩ := h.2.2.1.2.2.2 b hb
  have g1 := (h.2.1.2.2 g hgg).1
  have hne : A 206 ≠ A 207 := s.ne (by decide) (by decide) (by decide)
  have hr := rail_len h
  have hz := h.2.2.2.2.2.2.2.2.2.1.1
  refine (c2_X9_presell E (M := M) (m := m) (ll := A 202) (t := t) (bl := A 204) (b := b) (g := g) (tl := A 206) (sl := A 207) (i := i) (j := j) (st := st) (pr := pr) s.1 (s.2.1 202 (by decide) (by decide)) (s.2.2.1 202 (by decide) (by decide)) hi0 hi1 hi t1 (s.2.1 204 (by decide) (by decide)) (s.2.2.1 204 (by decide) (by decide)) hj0 hj1 hj u1 hg g1 (iv_le.mpr (by rw [iv_1]; exact h1)) ⟨iv_le.mpr (by rw [iv_1]; exact hp.1), iv_le.mpr (by rw [iv_99]; exact hp.2)⟩ h0 (iv_le.mpr h2) (iv_le.mpr h4) (s.2.1 206 (by decide) (by decide)) (s.2.2.1 206 (by decide) (by decide)) (by omega) (s.2.1 207 (by decide) (by decide)) (s.2.2.1 207 (by decide) (by decide)) (by omega) hne).mono ?_
  rintro v N ⟨rfl, a, q, ha, hq, haq, rfl⟩
  have e0 : eR M t = 0 := by unfold eR; rw [h0]; rfl
  have htr : t ∉ mL M (A 203) := fun w => by
    have := (h.2.2.2.2.2.2.2.1.2.1 t w).2
    rw [h0] at this
    exact absurd this (by decide)
  have hs := hI_sell (oo := none) (st := st) (pr := pr) (b := b) (g := g) (a := a) (q := q) (M := M) (t := t) (by rw [e0]; exact h) ht hb hg hgg (fun x hx => by cases hx) ha hq haq h1 h2 (by rw [h3]; exact Int.mul_nonneg (by omega) (by omega)) h4 htr
  have hvb : iv (vBuckets st) = (iv st + 19) / 20 := iv_vBuckets (by omega)
  have hk0 : iv (vMin (vBuckets st) (fI M 127 t)) = if iv (fI M 127 t) < (iv st + 19) / 20 then iv (fI M 127 t) else (iv st + 19) / 20 := by rw [iv_vMin, hvb]
  have hB := Bs_sell (b := b) (a := a) (q := q) (oo := none) (st := st) (pr := pr) (Bs_nil (m := m) (t := t) (g := g) (tl := A 206) (sl := A 207) (M0 := M) hz) s.1 t1 u1 g1 (fun x hx => by cases hx) ha hq haq (s.2.2.1 206 (by decide) (by decide)) (s.2.2.1 207 (by decide) (by decide)) hne (by show 0 < 20; omega) h1 u7 (by omega) (by split at hk0 <;> omega) (by split at hk0 <;> omega)
  have v129 : fI (eSell M m t b g none st pr (A 206) (A 207) a q) 129 t = if t = t ∧ fI M 125 t - st < 1 then 2 else fI M 129 t := sell_129 ha hq t1 (by omega)
  have v2 : fI (eSell M m t b g none st pr (A 206) (A 207) a q) 129 t = 0 ∨ fI (eSell M m t b g none st pr (A 206) (A 207) a q) 129 t = 2 := by
    rw [v129]
    split
    · exact Or.inr rfl
    · exact Or.inl h0
  have e1 : eR (eSell M m t b g none st pr (A 206) (A 207) a q) t = 0 := by
    unfold eR
    rcases v2 with v2 | v2
    · rw [v2]; rfl
    · rw [v2]; rfl
  rw [e1] at hs
  exact ⟨rfl, a, _, hs, hB, by split at hk0 <;> omega, by split at hk0 <;> omega, v2, fun x hx => ln_eSell (fun z => hx (by rw [z]; exact ha)) (fun z => hx (by rw [z]; exact hq))⟩
theorem h_undo2 (E : kx_E) {M0 N : kx_M} {t g : Nat} {e : kx_E1} {Es : List kx_E1} (s : hS m A M0) (t1 : kd M0 t = 7) (hg : fR M0 121 t = some g) (g1 : kd M0 g = 6) (hB : Bs m t g (A 206) (A 207) M0 (e :: Es) N) (hr : (mL M0 (A 206)).length + Es.length < 1000) (h3 : fI N 129 t ≠ 3) : c2t_X9_undo E [.ref m] N 0 0 (fun v N' => v = some (.int (eT e)) ∧ Bs m t g (A 206) (A 207) M0 Es N' ∧ fI N' 129 t = (if fI N 129 t = 2 then 0 else fI N 129 t) ∧ 1 ≤ iv (eT e) ∧ kd N' = kd N ∧ ln N' = ln N) := by
  have hne : A 206 ≠ A 207 := s.ne (by decide) (by decide) (by decide)
  have k6 := s.2.2.1 206 (by decide) (by decide)
  have k7 := s.2.2.1 207 (by decide) (by decide)
  obtain ⟨b1, b2, b3, b4, b5, b6⟩ := Bs_undo hB s.1 t1 g1 k6 k7 hne
  obtain ⟨p1, p2, p3, p4, p5, p6, p7, p8, p9, p10⟩ := b5
  obtain ⟨k1, k2, ⟨Qs, k3, k3'⟩, ⟨pre, k4, k4l, k4m⟩, -⟩ := hB
  have lv := fun x (hx : kd M0 x ≠ 0) => k1 x hx
  have nm := lv m (by rw [s.1]; decide)
  have e210 : fI N 210 m = fI M0 210 m := by rw [nm.2.1 210 (by unfold rn; omega) (by decide), dL_210 _ _ _ _ _ (by decide), Int32.add_zero]
  refine (c2_X9_undo E (M := N) (m := m) (s := eS e) (t := t) (b := eB e) (g := g) (tl := A 206) (sl := A 207) (oo := eO e) (by rw [nm.1, s.1]) p1 p2 (by rw [(lv t (by omega)).1, t1]) p3 (by rw [(lv _ (by omega)).1, p9]) (by rw [(lv t (by omega)).2.2.2.1, hg]) (by rw [(lv g (by omega)).1, g1]) p4 (fun o ho => by rw [(lv o (by rw [p10 o ho]; decide)).1, p10 o ho]) (by rw [nm.2.2.2.1, s.2.1 206 (by decide) (by decide)]) (by rw [(lv _ (by omega)).1, k6]) (by rw [k3, List.length_append, k3', List.length_cons]; omega) (by rw [nm.2.2.2.1, s.2.1 207 (by decide) (by decide)]) (by rw [(lv _ (by omega)).1, k7]) (by rw [k4, List.length_append, List.length_reverse, List.length_map]; omega) b3 hne (by rw [p7, e210]) h3 (by rw [p8]; exact b4)).mono ?_
  rintro v N' ⟨rfl, rfl⟩
  rw [p5, p6, p8]
  exact ⟨rfl, b1, b2, b6, kd_eUndo _ _ _ _ _ _ _ _ _ _ _, ln_eUndo _ _ _ _ _ _ _ _ _ _ _⟩
end UD2
theorem vp6 {k : Nat} (h : k < 6) : vp_in (nI k) 6 = True := eq_true (vp_of (by decide) (nI_pos' (by omega)) (nI_lt (b := 6) (by omega) (by omega)))
theorem dL_one (m t g : Nat) (e : kx_E1) (i x : Nat) : dL m t g [e] i x = dE m t g e i x := by
  show (0 : Int32) + dE m t g e i x = _
  rw [Int32.zero_add]
theorem dE_23 (m t g : Nat) (e : kx_E1) : dE m t g e 23 (eB e) = -(eP e * eT e + 2 * eK e) := by unfold dE; rw [if_pos rfl, if_pos rfl]
theorem dE_101 (m t g : Nat) (e : kx_E1) : dE m t g e 101 g = vShare (eP e * eT e) := by unfold dE; rw [if_neg (by decide), if_neg (by decide), if_neg (by decide), if_pos rfl, if_pos rfl]
theorem dE_125 (m t g : Nat) (e : kx_E1) : dE m t g e 125 t = -eT e := by unfold dE; rw [if_neg (by decide), if_neg (by decide), if_neg (by decide), if_neg (by decide), if_neg (by decide), if_pos rfl, if_pos rfl]
theorem dE_216 (m t g : Nat) (e : kx_E1) : dE m t g e 216 m = eT e := by unfold dE; rw [if_neg (by decide), if_neg (by decide), if_neg (by decide), if_neg (by decide), if_neg (by decide), if_neg (by decide), if_neg (by decide), if_pos rfl, if_pos rfl]
theorem dE_122 (m t g : Nat) (e : kx_E1) (x : Nat) : dE m t g e 122 x = 0 := by
  have := dL_210 m t g [e] x (i := 122) (by decide)
  rwa [dL_one] at this
