/-! from the lower level's contracts to functions of lists and ByCultivars -/
/-- ByCultivar's int set -/
theorem kx_ab_put {E : kx_E} {N M : kx_M} {a d i : Nat} {x : Int32} (h : kx_ab E N M) (ha : kd M a = 3) (hd : fR N 40 a = some d) (hi : i < 3) : kx_ab E (sA N d i x) (sA M a i x) := by
  obtain ⟨h1, h2, h3, h4, h5, h6, h7, h8⟩ := h
  obtain ⟨d', q1, q2, q3, q4, q5⟩ := h6 a ha
  cases hd.symm.trans q1
  refine ⟨h1, h2, fun b hb => ⟨(h3 b hb).1, fun j => ?_⟩, h4, h5, fun b hb => ?_, h7, h8⟩
  · have hb2 : kd M b = 20 := hb
    have e1 : b ≠ d := fun z => by rw [z] at hb2; omega
    have e2 : b ≠ a := fun z => by rw [z] at hb2; omega
    show u2 (aI N) d i x b j = u2 (aI M) a i x b j
    unfold u2
    rw [if_neg (fun z => e1 z.1), if_neg (fun z => e2 z.1)]
    exact (h3 b hb2).2 j
  · have hb2 : kd M b = 3 := hb
    obtain ⟨d2, r1, r2, r3, r4, r5⟩ := h6 b hb2
    refine ⟨d2, r1, r2, r3, r4, fun j hj => ?_⟩
    show u2 (aI N) d i x d2 j = u2 (aI M) a i x b j
    unfold u2
    by_cases hba : b = a
    · subst hba
      cases q1.symm.trans r1
      by_cases hji : j = i
      · rw [if_pos ⟨rfl, hji⟩, if_pos ⟨rfl, hji⟩]
      · rw [if_neg (fun z => hji z.2), if_neg (fun z => hji z.2)]
        exact r5 j hj
    · have hdd : d2 ≠ d := fun z => hba (h7 b a d hb2 ha (by rw [r1, z]) q1)
      rw [if_neg (fun z => hdd z.1), if_neg (fun z => hba z.1)]
      exact r5 j hj
theorem sKd_self {M : kx_M} {a k : Nat} (h : kd M a = k) : sKd M a k = M := by
  have e : u1 (kd M) a k = kd M := funext fun b => by
    unfold u1
    by_cases hb : b = a
    · rw [if_pos hb, hb, h]
    · rw [if_neg hb]
  unfold sKd
  rw [e]
  rfl
/-- a cell that the upper level doesn't see -/
theorem kx_ab_hid {E : kx_E} {N M : kx_M} {d k n : Nat} (h : kx_ab E N M) (hd : kd N d = 0) : kx_ab E (sN N d k n) M := by
  have hM := h.fresh hd
  obtain ⟨h1, h2, h3, h4, h5, h6, h7, h8⟩ := h
  have ne : ∀ b, kd M b ≠ 0 → b ≠ d := fun b hb z => hb (by rw [z]; exact hM)
  refine ⟨fun b hb => ?_, fun i b h0 hi => ?_, fun b hb => ?_, fun b hb => ?_, fun b c q hb hc => ?_, fun b hb => ?_, fun b c q hb hc => ?_, fun b hb => ?_⟩
  · rw [kd_sN_ne (ne b hb)]; exact h1 b hb
  · obtain ⟨q1, q2⟩ := h2 i b h0 hi
    exact ⟨(if_neg (ne b h0)).trans q1, (if_neg (ne b h0)).trans q2⟩
  · obtain ⟨q1, q2⟩ := h3 b hb
    have e := ne b (by omega)
    exact ⟨(if_neg e).trans q1, fun j => (if_neg e).trans (q2 j)⟩
  · have e := ne b (by omega)
    obtain ⟨q, q1, q2, q3, q4, q5⟩ := h4 b hb
    refine ⟨q, (if_neg e).trans q1, (if_neg e).trans q2, q3, q4, ?_⟩
    rcases q5 with q5 | ⟨r1, r2, r3, r4, r5⟩
    · exact Or.inl q5
    · have hq : q ≠ d := fun z => by rw [z] at r1; omega
      refine Or.inr ⟨by rw [kd_sN_ne hq]; exact r1, r2, ?_, ?_, fun j hj => (if_neg hq).trans (r5 j hj)⟩
      · show 0 < (if q = d then n else ln N q) ∧ (if q = d then n else ln N q) ≤ 2000; rw [if_neg hq]; exact r3
      · show _ ≤ (if q = d then n else ln N q); rw [if_neg hq]; exact r4
  · have e1 : fR (sN N d k n) 1 b = fR N 1 b := if_neg (ne b (by omega))
    have e2 : fR (sN N d k n) 1 c = fR N 1 c := if_neg (ne c (by omega))
    rw [e1, e2]; exact h5 b c q hb hc
  · have e := ne b (by omega)
    obtain ⟨q, q1, q2, q3, q4, q5⟩ := h6 b hb
    have hq : q ≠ d := fun z => by rw [z] at q2; omega
    exact ⟨q, (if_neg e).trans q1, by rw [kd_sN_ne hq]; exact q2, q3, (if_neg hq).trans q4, fun j hj => (if_neg hq).trans (q5 j hj)⟩
  · have e1 : fR (sN N d k n) 40 b = fR N 40 b := if_neg (ne b (by omega))
    have e2 : fR (sN N d k n) 40 c = fR N 40 c := if_neg (ne c (by omega))
    rw [e1, e2]; exact h7 b c q hb hc
  · exact (if_neg (ne b (by omega))).trans (h8 b hb)
/-- a list's new state -/
theorem kx_ab_al {E : kx_E} {N M N1 : kx_M} {a d : Nat} {L : List Nat} (h : kx_ab E N M) (ha : kd M a = 1 ∨ kd M a = 12) (e1 : kd N1 = kd N) (e2 : ln N1 = ln N) (e3 : ∀ i b, i ≠ 0 → (i ≠ 2 ∨ b ≠ a) → fI N1 i b = fI N i b) (e4 : ∀ i b, (i ≠ 1 ∨ b ≠ a) → fR N1 i b = fR N i b) (e5 : aI N1 = aI N) (e6 : ∀ b, (b ≠ d ∨ d = kx_e0 E) → aR N1 b = aR N b)
    (e7 : ∀ b, b ≠ a → kd M b = 1 → fR N 1 b = some d → d = kx_e0 E) (f1 : fR N1 1 a = some d) (f2 : fI N1 2 a = Int32.ofNat L.length) (f3 : L.length ≤ 1001) (f4 : ∀ x ∈ L, 2 ≤ kd M x ∧ kd M x ≤ 11)
    (f5 : (d = kx_e0 E ∧ L = []) ∨ (kd N d = 21 ∧ kd M d = 0 ∧ (0 < ln N d ∧ ln N d ≤ 2000) ∧ L.length ≤ ln N d ∧ ∀ j : Nat, j < L.length → aR N1 d j = L[j]?)) : kx_ab E N1 (sKd (sL M a L) a 1) := by
  obtain ⟨h1, h2, h3, h4, h5, h6, h7, h8⟩ := h
  have ek : ∀ b, kd (sKd (sL M a L) a 1) b = if b = a then 1 else kd M b := fun b => rfl
  have ekn : ∀ b, b ≠ a → kd (sKd (sL M a L) a 1) b = kd M b := fun b hb => if_neg hb
  have eka : kd (sKd (sL M a L) a 1) a = 1 := if_pos rfl
  have emn : ∀ b, b ≠ a → mL (sKd (sL M a L) a 1) b = mL M b := fun b hb => if_neg hb
  have ema : mL (sKd (sL M a L) a 1) a = L := if_pos rfl
  have hx : ∀ x, 2 ≤ kd M x → kd M x ≤ 11 → 2 ≤ kd (sKd (sL M a L) a 1) x ∧ kd (sKd (sL M a L) a 1) x ≤ 11 := fun x p1 p2 => by
    have : x ≠ a := fun z => by rw [z] at p1 p2; omega
    rw [ekn x this]; exact ⟨p1, p2⟩
  have hd0 : ∀ q, kd M q = 0 → kd (sKd (sL M a L) a 1) q = 0 := fun q hq => by
    have : q ≠ a := fun z => by rw [z] at hq; omega
    rw [ekn q this]; exact hq
  refine ⟨fun b hb => ?_, fun i b h0 hi => ?_, fun b hb => ?_, fun b hb => ?_, fun b c q hb hc => ?_, fun b hb => ?_, fun b c q hb hc => ?_, fun b hb => ?_⟩
  · rw [e1]
    by_cases z : b = a
    · rw [z, eka]
      have := (h1 a (by omega)).1
      rcases ha with ha | ha
      · rw [this, ha]; exact ⟨rfl, by decide⟩
      · rw [this, ha]; exact ⟨rfl, by decide⟩
    · rw [ekn b z] at hb ⊢
      exact h1 b hb
  · have hb0 : kd M b ≠ 0 := by
      by_cases z : b = a
      · rw [z]; omega
      · rw [ekn b z] at h0; exact h0
    obtain ⟨q1, q2⟩ := h2 i b hb0 hi
    exact ⟨(e3 i b (by omega) (Or.inl (by omega))).trans q1, (e4 i b (Or.inl (by omega))).trans q2⟩
  · have z : b ≠ a := fun z => by rw [z, eka] at hb; omega
    rw [ekn b z] at hb
    obtain ⟨q1, q2⟩ := h3 b hb
    rw [e2, e5]
    exact ⟨q1, q2⟩
  · by_cases z : b = a
    · subst z
      refine ⟨d, f1, by rw [ema]; exact f2, by rw [ema]; exact f3, fun x hxx => ?_, ?_⟩
      · rw [ema] at hxx
        exact hx x (f4 x hxx).1 (f4 x hxx).2
      · rw [ema, e1, e2]
        rcases f5 with f5 | ⟨r1, r2, r3, r4, r5⟩
        · exact Or.inl f5
        · exact Or.inr ⟨r1, hd0 d r2, r3, r4, r5⟩
    · rw [ekn b z] at hb
      obtain ⟨q, q1, q2, q3, q4, q5⟩ := h4 b hb
      rw [emn b z, e1, e2]
      refine ⟨q, (e4 1 b (Or.inr z)).trans q1, (e3 2 b (by decide) (Or.inr z)).trans q2, q3, fun x hxx => hx x (q4 x hxx).1 (q4 x hxx).2, ?_⟩
      rcases q5 with q5 | ⟨r1, r2, r3, r4, r5⟩
      · exact Or.inl q5
      · refine Or.inr ⟨r1, hd0 q r2, r3, r4, fun j hj => ?_⟩
        rw [e6 q ?_]
        · exact r5 j hj
        · by_cases hqd : q = d
          · rw [hqd] at q1
            exact Or.inr (e7 b z hb q1)
          · exact Or.inl hqd
  · by_cases zb : b = a
    · by_cases zc : c = a
      · exact fun _ _ => Or.inl (zb.trans zc.symm)
      · rw [ekn c zc] at hc
        intro q1 q2
        rw [zb, f1] at q1
        rw [e4 1 c (Or.inr zc)] at q2
        cases q1
        exact Or.inr (e7 c zc hc q2)
    · rw [ekn b zb] at hb
      by_cases zc : c = a
      · intro q1 q2
        rw [zc, f1] at q2
        rw [e4 1 b (Or.inr zb)] at q1
        cases q2
        exact Or.inr (e7 b zb hb q1)
      · rw [ekn c zc] at hc
        rw [e4 1 b (Or.inr zb), e4 1 c (Or.inr zc)]
        exact h5 b c q hb hc
  · have z : b ≠ a := fun z => by rw [z, eka] at hb; omega
    rw [ekn b z] at hb
    obtain ⟨q, q1, q2, q3, q4, q5⟩ := h6 b hb
    rw [e1, e2, e5]
    exact ⟨q, (e4 40 b (Or.inr z)).trans q1, q2, hd0 q q3, q4, q5⟩
  · have zb : b ≠ a := fun z => by rw [z, eka] at hb; omega
    have zc : c ≠ a := fun z => by rw [z, eka] at hc; omega
    rw [ekn b zb] at hb
    rw [ekn c zc] at hc
    rw [e4 40 b (Or.inr zb), e4 40 c (Or.inr zc)]
    exact h7 b c q hb hc
  · have z : b ≠ a := fun z => by rw [z, eka] at hb; omega
    rw [ekn b z] at hb
    exact (e3 2 b (by decide) (Or.inr z)).trans (h8 b hb)
/-- a ByCultivar made: its row d is nobody's -/
theorem kx_ab_bc {E : kx_E} {N M : kx_M} {a d : Nat} {x : Int32} (h : kx_ab E N M) (ha : kd M a = 13) (hd : kd N d = 20) (hM : kd M d = 0) (hl : ln N d = 3) (hz : ∀ b, kd M b = 3 → fR N 40 b ≠ some d) : kx_ab E (sR (sA (sA (sA N d 0 x) d 1 x) d 2 x) 40 a (some d)) (sKd (sA (sA (sA M a 0 x) a 1 x) a 2 x) a 3) := by
  obtain ⟨h1, h2, h3, h4, h5, h6, h7, h8⟩ := h
  have efR : ∀ i b, (i ≠ 40 ∨ b ≠ a) → fR (sR (sA (sA (sA N d 0 x) d 1 x) d 2 x) 40 a (some d)) i b = fR N i b := fun i b hib => if_neg (fun z => hib.elim (fun w => w z.1) (fun w => w z.2))
  have efa : fR (sR (sA (sA (sA N d 0 x) d 1 x) d 2 x) 40 a (some d)) 40 a = some d := if_pos ⟨rfl, rfl⟩
  have eaI : ∀ b j, b ≠ d → aI (sR (sA (sA (sA N d 0 x) d 1 x) d 2 x) 40 a (some d)) b j = aI N b j := fun b j hb => by
    show u2 (u2 (u2 _ _ _ _) _ _ _) _ _ _ _ _ = _
    unfold u2
    rw [if_neg (fun z => hb z.1), if_neg (fun z => hb z.1), if_neg (fun z => hb z.1)]
  have eaM : ∀ b j, b ≠ a → aI (sKd (sA (sA (sA M a 0 x) a 1 x) a 2 x) a 3) b j = aI M b j := fun b j hb => by
    show u2 (u2 (u2 _ _ _ _) _ _ _) _ _ _ _ _ = _
    unfold u2
    rw [if_neg (fun z => hb z.1), if_neg (fun z => hb z.1), if_neg (fun z => hb z.1)]
  have eds : ∀ j, j < 3 → aI (sR (sA (sA (sA N d 0 x) d 1 x) d 2 x) 40 a (some d)) d j = aI (sKd (sA (sA (sA M a 0 x) a 1 x) a 2 x) a 3) a j := fun j hj => by
    show u2 (u2 (u2 _ _ _ _) _ _ _) _ _ _ _ _ = u2 (u2 (u2 _ _ _ _) _ _ _) _ _ _ _ _
    unfold u2
    rcases j with _ | _ | _ | j
    · simp
    · simp
    · simp
    · omega
  have ekn : ∀ b, b ≠ a → kd (sKd (sA (sA (sA M a 0 x) a 1 x) a 2 x) a 3) b = kd M b := fun b hb => if_neg hb
  have eka : kd (sKd (sA (sA (sA M a 0 x) a 1 x) a 2 x) a 3) a = 3 := if_pos rfl
  have hd0 : ∀ q, kd M q = 0 → kd (sKd (sA (sA (sA M a 0 x) a 1 x) a 2 x) a 3) q = 0 := fun q hq => by
    rw [ekn q (fun z => by rw [z] at hq; omega)]; exact hq
  refine ⟨fun b hb => ?_, fun i b h0 hi => ?_, fun b hb => ?_, fun b hb => ?_, fun b c q hb hc => ?_, fun b hb => ?_, fun b c q hb hc => ?_, fun b hb => ?_⟩
  · by_cases z : b = a
    · rw [z, eka]
      have := (h1 a (by omega)).1
      rw [ha] at this
      exact ⟨this, by decide⟩
    · rw [ekn b z] at hb ⊢
      exact h1 b hb
  · have hb0 : kd M b ≠ 0 := by
      by_cases z : b = a
      · rw [z]; omega
      · rw [ekn b z] at h0; exact h0
    obtain ⟨q1, q2⟩ := h2 i b hb0 hi
    exact ⟨q1, (efR i b (Or.inl (by omega))).trans q2⟩
  · have z : b ≠ a := fun z => by rw [z, eka] at hb; omega
    rw [ekn b z] at hb
    obtain ⟨q1, q2⟩ := h3 b hb
    have zd : b ≠ d := fun z => by rw [z] at hb; omega
    exact ⟨q1, fun j => by rw [eaI b j zd, eaM b j z]; exact q2 j⟩
  · have z : b ≠ a := fun z => by rw [z, eka] at hb; omega
    rw [ekn b z] at hb
    obtain ⟨q, q1, q2, q3, q4, q5⟩ := h4 b hb
    refine ⟨q, (efR 1 b (Or.inl (by decide))).trans q1, q2, q3, fun y hy => ?_, ?_⟩
    · have := q4 y hy
      rw [ekn y (fun z => by rw [z] at this; omega)]
      exact this
    · rcases q5 with q5 | ⟨r1, r2, r3, r4, r5⟩
      · exact Or.inl q5
      · exact Or.inr ⟨r1, hd0 q r2, r3, r4, r5⟩
  · have zb : b ≠ a := fun z => by rw [z, eka] at hb; omega
    have zc : c ≠ a := fun z => by rw [z, eka] at hc; omega
    rw [ekn b zb] at hb
    rw [ekn c zc] at hc
    rw [efR 1 b (Or.inl (by decide)), efR 1 c (Or.inl (by decide))]
    exact h5 b c q hb hc
  · by_cases z : b = a
    · subst z
      exact ⟨d, efa, hd, hd0 d hM, hl, eds⟩
    · rw [ekn b z] at hb
      obtain ⟨q, q1, q2, q3, q4, q5⟩ := h6 b hb
      have zq : q ≠ d := fun w => hz b hb (by rw [q1, w])
      exact ⟨q, (efR 40 b (Or.inr z)).trans q1, q2, hd0 q q3, q4, fun j hj => by rw [eaI q j zq, eaM b j z]; exact q5 j hj⟩
  · by_cases zb : b = a
    · by_cases zc : c = a
      · exact fun _ _ => zb.trans zc.symm
      · rw [ekn c zc] at hc
        intro q1 q2
        rw [zb, efa] at q1
        rw [efR 40 c (Or.inr zc)] at q2
        cases q1
        exact absurd q2 (hz c hc)
    · rw [ekn b zb] at hb
      by_cases zc : c = a
      · intro q1 q2
        rw [zc, efa] at q2
        rw [efR 40 b (Or.inr zb)] at q1
        cases q2
        exact absurd q1 (hz b hb)
      · rw [ekn c zc] at hc
        rw [efR 40 b (Or.inr zb), efR 40 c (Or.inr zc)]
        exact h7 b c q hb hc
  · have z : b ≠ a := fun z => by rw [z, eka] at hb; omega
    rw [ekn b z] at hb
    exact h8 b hb
