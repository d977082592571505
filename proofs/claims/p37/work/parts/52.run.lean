/-! THE CLOCK'S RUN -/
theorem fI_set (M : kx_M) (i a : Nat) (x : Int32) (j b : Nat) : fI (sI M i a x) j b = if j = i ∧ b = a then x else fI M j b := by exact (Eq.trans rfl rfl)
/-- what a run reads, but for the minimum -/
def aG (r : Nat) (l : List Nat) (N N' : kx_M) : Prop :=
  (fI N' 60 r = fI N 60 r ∧ fI N' 61 r = fI N 61 r ∧ fI N' 62 r = fI N 62 r ∧ fI N' 63 r = fI N 63 r ∧ fI N' 65 r = fI N 65 r ∧ fI N' 66 r = fI N 66 r ∧ fI N' 67 r = fI N 67 r) ∧
  ∀ o ∈ l, fR N' 140 o = fR N 140 o ∧ (fI N' 141 o = fI N 141 o ∧ fI N' 142 o = fI N 142 o ∧ fI N' 143 o = fI N 143 o ∧ fI N' 144 o = fI N 144 o ∧ fI N' 145 o = fI N 145 o ∧ fI N' 147 o = fI N 147 o) ∧
    fI N' 20 (rf N 140 o) = fI N 20 (rf N 140 o) ∧ fI N' 28 (rf N 140 o) = fI N 28 (rf N 140 o) ∧ fI N' 29 (rf N 140 o) = fI N 29 (rf N 140 o) ∧ fI N' 30 (rf N 140 o) = fI N 30 (rf N 140 o)
section AG
variable {r : Nat} {l : List Nat} {N N' : kx_M}
theorem aG.refl : aG r l N N := ⟨⟨rfl, rfl, rfl, rfl, rfl, rfl, rfl⟩, fun _ _ => ⟨rfl, ⟨rfl, rfl, rfl, rfl, rfl, rfl⟩, rfl, rfl, rfl, rfl⟩⟩
theorem aG.rfe (h : aG r l N N') {o : Nat} (ho : o ∈ l) : rf N' 140 o = rf N 140 o := by unfold rf; rw [(h.2 o ho).1]
theorem aG.stamp (h : aG r l N N') {o : Nat} (ho : o ∈ l) : vStamp N' r o = vStamp N r o := by
  have e := h.rfe ho
  obtain ⟨⟨-, -, -, -, h65, -⟩, h2⟩ := h
  obtain ⟨-, ⟨-, -, -, -, h145, -⟩, -, -, h29, -⟩ := h2 o ho
  unfold vStamp
  rw [e, h65, h145, h29]
theorem aG.fits (h : aG r l N N') {o : Nat} (ho : o ∈ l) : vFits N' r o = vFits N r o := by
  have e := h.rfe ho
  obtain ⟨⟨h60, h61, h62, h63, -⟩, h2⟩ := h
  obtain ⟨-, ⟨h141, h142, h143, h144, -, h147⟩, -, -, -, h30⟩ := h2 o ho
  unfold vFits
  rw [e, h60, h61, h62, h63, h141, h142, h143, h144, h147, h30]
theorem aG.ahead (h : aG r l N N') {o q : Nat} (ho : o ∈ l) (hq : q ∈ l) : vAhead N' r o q = vAhead N r o q := by
  have e := h.rfe ho
  have e2 := h.rfe hq
  unfold vAhead
  rw [h.stamp ho, h.stamp hq, e, e2, (h.2 o ho).2.2.1, (h.2 q hq).2.2.1]
theorem aG.price (h : aG r l N N') {o : Nat} (ho : o ∈ l) : vPrice N' r o = vPrice N r o := by
  unfold vPrice
  rw [h.stamp ho, h.1.2.2.2.2.1]
theorem aG.taken (h : aG r l N N') {o : Nat} (ho : o ∈ l) : vTaken N' r o = vTaken N r o := by
  unfold vTaken
  rw [h.price ho, h.rfe ho, (h.2 o ho).2.2.2.1, (h.2 o ho).2.1.2.2.2.2.2, h.1.2.2.2.2.2.1]
theorem vFirst1_none (N : kx_M) (r x : Nat) : vFirst1 N r none x = if vFits N r x = 0 then none else some x := by exact (Eq.refl _)
theorem vFirst1_some (N : kx_M) (r q x : Nat) : vFirst1 N r (some q) x = if vFits N r x = 0 then some q else if vAhead N r x q = 0 then some q else some x := by exact (Eq.refl _)
theorem vFirst1_in {N : kx_M} {r x o : Nat} {f : Option Nat} (h : vFirst1 N r f x = some o) : f = some o ∨ x = o := by
  cases f with
  | none =>
    rw [vFirst1_none] at h
    by_cases hz : vFits N r x = 0
    · rw [if_pos hz] at h; exact absurd h (by intro z; cases z)
    · rw [if_neg hz] at h; exact Or.inr (Option.some.inj h)
  | some q =>
    rw [vFirst1_some] at h
    by_cases hz : vFits N r x = 0
    · rw [if_pos hz] at h; exact Or.inl h
    · rw [if_neg hz] at h
      by_cases hy : vAhead N r x q = 0
      · rw [if_pos hy] at h; exact Or.inl h
      · rw [if_neg hy] at h; exact Or.inr (Option.some.inj h)
theorem aG.one (h : aG r l N N') {x : Nat} {f : Option Nat} (hx : x ∈ l) (hf : ∀ o, f = some o → o ∈ l) : vFirst1 N' r f x = vFirst1 N r f x := by
  cases f with
  | none => rw [vFirst1_none, vFirst1_none, h.fits hx]
  | some q => rw [vFirst1_some, vFirst1_some, h.fits hx, h.ahead hx (hf q rfl)]
theorem aG.first1 (h : aG r l N N') : ∀ (k : List Nat) (f : Option Nat), (∀ o ∈ k, o ∈ l) → (∀ o, f = some o → o ∈ l) → k.foldl (vFirst1 N' r) f = k.foldl (vFirst1 N r) f := by
  intro k
  induction k with
  | nil => intro f _ _; exact (Eq.refl f)
  | cons x k ih =>
    intro f hk hf
    have hx := hk x List.mem_cons_self
    rw [List.foldl_cons, List.foldl_cons, h.one hx hf]
    refine ih _ (fun o ho => hk o (List.mem_cons_of_mem _ ho)) ?_
    intro o ho
    rcases vFirst1_in ho with z | z
    · exact hf o z
    · rw [← z]; exact hx
theorem aG.first (h : aG r l N N') : vFirst N' r l = vFirst N r l := h.first1 l none (fun _ ho => ho) (fun _ ho => by cases ho)
theorem aG.out (h : aG r l N N') {o : Nat} (ho : o ∈ l) : aG r l (sI N 30 (rf N 140 o) 1) (sI N' 30 (rf N' 140 o) 1) := by
  rw [h.rfe ho]
  obtain ⟨h1, h2⟩ := h
  refine ⟨h1, fun q hq => ?_⟩
  obtain ⟨a1, a2, a3, a4, a5, a6⟩ := h2 q hq
  refine ⟨a1, a2, a3, a4, a5, ?_⟩
  show fI (sI N' 30 _ 1) 30 (rf N 140 q) = fI (sI N 30 _ 1) 30 (rf N 140 q)
  rw [fI_set, fI_set, a6]
theorem aG.take (h : aG r l N N') {o : Nat} (ho : o ∈ l) (t p : Int32) : aG r l (eTake N r o t p) (eTake N' r o t p) := by
  have e := h.rfe ho
  obtain ⟨⟨h60, h61, h62, h63, h65, h66, h67⟩, h2⟩ := h
  obtain ⟨-, ⟨-, -, -, -, -, h147⟩, -, h28, -⟩ := h2 o ho
  refine ⟨?_, fun q hq => ?_⟩
  · unfold eTake
    simp only [e, fI_set, h60, h61, h62, h63, h66, h67, Nat.reduceEqDiff, false_and, if_false, true_and, if_true, and_self]
  · obtain ⟨a1, ⟨b1, b2, b3, b4, b5, b6⟩, a3, a4, a5, a6⟩ := h2 q hq
    have er : rf (eTake N r o t p) 140 q = rf N 140 q := by unfold eTake rf; rw [fR_sI, fR_sI, fR_sI, fR_sI, fR_sI, fR_sI, fR_sI]
    rw [er]
    unfold eTake
    simp only [e, fR_sI, fI_set, Nat.reduceEqDiff, false_and, if_false, true_and, h28, h147, h67, a1, b1, b2, b3, b4, b5, b6, a3, a4, a5, a6, and_self]
end AG
/-- the sign of a price -/
def pz (N : kx_M) (o : Nat) : Int := iv (fI N 145 o) - iv (fI N 29 (rf N 140 o))
def hB (r : Nat) (l : List Nat) (N : kx_M) : Prop := 0 ≤ iv (fI N 65 r) ∧ iv (fI N 65 r) ≤ 99 ∧ 0 ≤ iv (fI N 67 r) ∧ iv (fI N 67 r) ≤ 100 ∧ iv (fI N 66 r) ≤ 1000 ∧
  ∀ o ∈ l, 1 ≤ iv (fI N 145 o) ∧ iv (fI N 145 o) ≤ 99 ∧ 0 ≤ iv (fI N 29 (rf N 140 o)) ∧ iv (fI N 29 (rf N 140 o)) ≤ 9 ∧ -200 ≤ iv (fI N 28 (rf N 140 o)) ∧ iv (fI N 28 (rf N 140 o)) ≤ 100000
section HB
variable {r : Nat} {l : List Nat} {N N' : kx_M}
theorem hB.stamp (h : hB r l N) {o : Nat} (ho : o ∈ l) : iv (vStamp N r o) = iv (fI N 65 r) - pz N o := by
  obtain ⟨h1, h2, -, -, -, h5⟩ := h
  obtain ⟨a1, a2, a3, a4, -⟩ := h5 o ho
  unfold vStamp pz
  have e1 : iv (fI N 65 r - fI N 145 o) = iv (fI N 65 r) - iv (fI N 145 o) := iv_sub (by omega) (by omega)
  rw [iv_add (by rw [e1]; omega) (by rw [e1]; omega), e1]
  omega
theorem hB.price (h : hB r l N) {o : Nat} (ho : o ∈ l) : iv (vPrice N r o) = pz N o := by
  have e := h.stamp ho
  obtain ⟨h1, h2, -, -, -, h5⟩ := h
  obtain ⟨a1, a2, a3, a4, -⟩ := h5 o ho
  unfold vPrice
  have hp : pz N o = iv (fI N 145 o) - iv (fI N 29 (rf N 140 o)) := rfl
  rw [iv_sub (by omega) (by omega), e]
  omega
theorem hB.ahead (h : hB r l N) {o q : Nat} (ho : o ∈ l) (hq : q ∈ l) : (vAhead N r o q = 0 → pz N o ≤ pz N q) ∧ (vAhead N r o q ≠ 0 → pz N q ≤ pz N o) := by
  have e1 := h.stamp ho
  have e2 := h.stamp hq
  unfold vAhead
  by_cases hlt : vStamp N r o < vStamp N r q
  · rw [if_pos hlt]
    have := iv_lt.mp hlt
    exact ⟨fun z => absurd z (by decide), fun _ => by omega⟩
  · rw [if_neg hlt]
    have hlt' : ¬ iv (vStamp N r o) < iv (vStamp N r q) := fun z => hlt (iv_lt.mpr z)
    refine ⟨fun _ => by omega, fun z => ?_⟩
    split at z
    · rename_i he
      have := iv_eq.mp he
      omega
    · exact absurd rfl z
theorem hB.first1 (h : hB r l N) : ∀ (k : List Nat) (f : Option Nat) (o : Nat), (∀ o ∈ k, o ∈ l) → (∀ o, f = some o → o ∈ l ∧ vFits N r o ≠ 0) → k.foldl (vFirst1 N r) f = some o → o ∈ l ∧ vFits N r o ≠ 0 ∧ (∀ q ∈ k, vFits N r q ≠ 0 → pz N q ≤ pz N o) ∧ (∀ q, f = some q → pz N q ≤ pz N o) := by
  intro k
  induction k with
  | nil =>
    intro f o hk hf he
    have he : f = some o := he
    exact ⟨(hf o he).1, (hf o he).2, fun q hq => absurd hq List.not_mem_nil, fun q hq => by rw [he] at hq; cases hq; exact Int.le_refl _⟩
  | cons x k ih =>
    intro f o hk hf he
    rw [List.foldl_cons] at he
    have hx := hk x List.mem_cons_self
    have hk' : ∀ o ∈ k, o ∈ l := fun o ho => hk o (List.mem_cons_of_mem _ ho)
    by_cases hfx : vFits N r x = 0
    · have e : vFirst1 N r f x = f := if_pos hfx
      rw [e] at he
      obtain ⟨b1, b2, b3, b4⟩ := ih f o hk' hf he
      refine ⟨b1, b2, fun q hq hfq => ?_, b4⟩
      rcases List.mem_cons.mp hq with rfl | hq
      · exact absurd hfx hfq
      · exact b3 q hq hfq
    · cases f with
      | none =>
        have e : vFirst1 N r none x = some x := if_neg hfx
        rw [e] at he
        obtain ⟨b1, b2, b3, b4⟩ := ih (some x) o hk' (fun q hq => by cases hq; exact ⟨hx, hfx⟩) he
        refine ⟨b1, b2, fun q hq hfq => ?_, fun q hq => by cases hq⟩
        rcases List.mem_cons.mp hq with rfl | hq
        · exact b4 _ rfl
        · exact b3 q hq hfq
      | some y =>
        obtain ⟨hy, hfy⟩ := hf y rfl
        obtain ⟨c1, c2⟩ := h.ahead hx hy
        have e : vFirst1 N r (some y) x = if vAhead N r x y = 0 then some y else some x := if_neg hfx
        rw [e] at he
        by_cases ha : vAhead N r x y = 0
        · rw [if_pos ha] at he
          obtain ⟨b1, b2, b3, b4⟩ := ih (some y) o hk' hf he
          refine ⟨b1, b2, fun q hq hfq => ?_, b4⟩
          rcases List.mem_cons.mp hq with rfl | hq
          · exact Int.le_trans (c1 ha) (b4 y rfl)
          · exact b3 q hq hfq
        · rw [if_neg ha] at he
          obtain ⟨b1, b2, b3, b4⟩ := ih (some x) o hk' (fun q hq => by cases hq; exact ⟨hx, hfx⟩) he
          refine ⟨b1, b2, fun q hq hfq => ?_, fun q hq => by cases hq; exact Int.le_trans (c2 ha) (b4 x rfl)⟩
          rcases List.mem_cons.mp hq with rfl | hq
          · exact b4 _ rfl
          · exact b3 q hq hfq
theorem hB.first (h : hB r l N) {o : Nat} (he : vFirst N r l = some o) : o ∈ l ∧ vFits N r o ≠ 0 ∧ ∀ q ∈ l, vFits N r q ≠ 0 → pz N q ≤ pz N o := by
  obtain ⟨b1, b2, b3, -⟩ := h.first1 l none o (fun _ ho => ho) (fun _ ho => by cases ho) he
  exact ⟨b1, b2, b3⟩
/-- some buyers are out, nothing else has changed -/
def pOut (N K : kx_M) : Prop := (kd K = kd N ∧ mL K = mL N ∧ fR K = fR N ∧ aI K = aI N ∧ ln K = ln N) ∧ (∀ i x, i ≠ 30 → fI K i x = fI N i x) ∧ ∀ x, fI K 30 x = 0 → fI N 30 x = 0
theorem pOut.refl : pOut N N := ⟨⟨rfl, rfl, rfl, rfl, rfl⟩, fun _ _ _ => rfl, fun _ h => h⟩
theorem pOut.out (b : Nat) : pOut N (sI N 30 b 1) := ⟨⟨rfl, rfl, rfl, rfl, rfl⟩, fun i x hi => fI_sI_ne _ _ _ _ _ _ hi, fun x h => by
  rw [fI_set] at h
  split at h
  · exact absurd h (by decide)
  · exact h⟩
theorem pOut.trans {K : kx_M} (h : pOut N N') (g : pOut N' K) : pOut N K := by
  obtain ⟨⟨a1, a2, a3, a4, a5⟩, a6, a7⟩ := h
  obtain ⟨⟨b1, b2, b3, b4, b5⟩, b6, b7⟩ := g
  exact ⟨⟨b1.trans a1, b2.trans a2, b3.trans a3, b4.trans a4, b5.trans a5⟩, fun i x hi => (b6 i x hi).trans (a6 i x hi), fun x hx => a7 x (b7 x hx)⟩
theorem pOut.rfe (h : pOut N N') (i x : Nat) : rf N' i x = rf N i x := by unfold rf; rw [h.1.2.2.1]
theorem pOut.pze (h : pOut N N') (o : Nat) : pz N' o = pz N o := by unfold pz; rw [h.rfe, h.2.1 _ _ (by decide), h.2.1 _ _ (by decide)]
theorem pOut.hBe (h : pOut N N') (g : hB r l N) : hB r l N' := by
  obtain ⟨g1, g2, g3, g4, g5, g6⟩ := g
  have e := h.2.1
  refine ⟨by rw [e _ _ (by decide)]; exact g1, by rw [e _ _ (by decide)]; exact g2, by rw [e _ _ (by decide)]; exact g3, by rw [e _ _ (by decide)]; exact g4, by rw [e _ _ (by decide)]; exact g5, fun o ho => ?_⟩
  rw [h.rfe, e _ _ (by decide), e _ _ (by decide), e _ _ (by decide)]
  exact g6 o ho
theorem pOut.fits (h : pOut N N') {o : Nat} (hf : vFits N' r o ≠ 0) : vFits N r o ≠ 0 := by
  have e := h.2.1
  unfold vFits at hf ⊢
  rw [e 147 _ (by decide), e 141 _ (by decide), e 60 _ (by decide), e 142 _ (by decide), e 61 _ (by decide), e 62 _ (by decide), e 143 _ (by decide), e 63 _ (by decide), e 144 _ (by decide), h.rfe] at hf
  split at hf
  · exact absurd rfl hf
  · rename_i h1
    rw [if_neg h1]
    split at hf
    · rename_i h2
      rw [if_pos (h.2.2 _ h2)]
      exact hf
    · exact absurd rfl hf
/-- how a sale is found -/
theorem vNext_some : ∀ (n : Nat) (N N2 : kx_M) (o : Nat), vNext r l n N = (some o, N2) → ∃ K, pOut N K ∧ vFirst K r l = some o ∧ ¬ fI K 66 r < 1 ∧ ¬ vPrice K r o < fI K 64 r ∧ ¬ vPrice K r o < 1 ∧ ¬ vTaken K r o ≤ 0 ∧ N2 = eTake K r o (vTaken K r o) (vPrice K r o) := by
  intro n
  induction n with
  | zero => intro N N2 o h; cases h
  | succ n ih =>
    intro N N2 o h
    unfold vNext at h
    cases hF : vFirst N r l with
    | none => rw [hF] at h; cases h
    | some x =>
      rw [hF] at h
      change (if fI N 66 r < 1 then (none, N) else if vPrice N r x < fI N 64 r then (none, N) else if vPrice N r x < 1 then (none, N) else if vTaken N r x ≤ 0 then vNext r l n (sI N 30 (rf N 140 x) 1) else (some x, eTake N r x (vTaken N r x) (vPrice N r x))) = _ at h
      split at h
      · cases h
      · split at h
        · cases h
        · split at h
          · cases h
          · split at h
            · obtain ⟨K, k1, k2⟩ := ih _ _ _ h
              exact ⟨K, (pOut.out _).trans k1, k2⟩
            · rename_i b1 b2 b3 b4
              cases h
              exact ⟨N, pOut.refl, hF, b1, b2, b3, b4, rfl⟩
theorem vNext_none : ∀ (n : Nat) (N N2 : kx_M), vNext r l n N = (none, N2) → pOut N N2 := by
  intro n
  induction n with
  | zero => intro N N2 h; cases h; exact pOut.refl
  | succ n ih =>
    intro N N2 h
    unfold vNext at h
    cases hF : vFirst N r l with
    | none => rw [hF] at h; cases h; exact pOut.refl
    | some x =>
      rw [hF] at h
      change (if fI N 66 r < 1 then (none, N) else if vPrice N r x < fI N 64 r then (none, N) else if vPrice N r x < 1 then (none, N) else if vTaken N r x ≤ 0 then vNext r l n (sI N 30 (rf N 140 x) 1) else (some x, eTake N r x (vTaken N r x) (vPrice N r x))) = _ at h
      split at h
      · cases h; exact pOut.refl
      · split at h
        · cases h; exact pOut.refl
        · split at h
          · cases h; exact pOut.refl
          · split at h
            · exact (pOut.out _).trans (ih _ _ h)
            · cases h
end HB
/-- what a sale found takes -/
theorem vNext_mem {r : Nat} {l : List Nat} {n : Nat} {N N2 : kx_M} {o : Nat} (h : vNext r l n N = (some o, N2)) : o ∈ l := by
  obtain ⟨K, -, hF, -⟩ := vNext_some n N N2 o h
  exact vFirst_mem hF
section HN
variable {r : Nat} {l : List Nat}
/-- the price of a sale found is at most that of the one who presses first -/
theorem vNext_le {n : Nat} {N N2 : kx_M} {o x b : Nat} (hb : hB r l N) (hF : vFirst N r l = some x) (h : vNext r l n (sI N 30 b 1) = (some o, N2)) : pz N o ≤ pz N x := by
  obtain ⟨K, k1, k2, -⟩ := vNext_some n _ _ _ h
  have k3 := (pOut.out b).trans k1
  obtain ⟨c1, c2, -⟩ := (k3.hBe hb).first k2
  exact (hb.first hF).2.2 o c1 (k3.fits c2)
theorem eTake_69 (N : kx_M) (r o : Nat) (t p : Int32) : fI (eTake N r o t p) 69 r = p := by
  unfold eTake; simp only [fI_set, Nat.reduceEqDiff, false_and, if_false, true_and, if_true, and_self]
theorem eTake_68 (N : kx_M) (r o : Nat) (t p : Int32) : fI (eTake N r o t p) 68 r = t := by
  unfold eTake; simp only [fI_set, Nat.reduceEqDiff, false_and, if_false, true_and, if_true, and_self]
theorem eTake_64 (N : kx_M) (r o : Nat) (t p : Int32) : fI (eTake N r o t p) 64 r = fI N 64 r := by
  unfold eTake; simp only [fI_set, Nat.reduceEqDiff, false_and, if_false, true_and, if_true, and_self]
/-- a greater minimum that no price falls below changes nothing -/
theorem vNext_min : ∀ (n : Nat) (N N' : kx_M), aG r l N N' → hB r l N → fI N 64 r ≤ fI N' 64 r → (∀ N2, vNext r l n N = (none, N2) → (vNext r l n N').1 = none) ∧ ∀ o N2, vNext r l n N = (some o, N2) → fI N' 64 r ≤ fI N2 69 r → ∃ N2', vNext r l n N' = (some o, N2') ∧ aG r l N2 N2' ∧ fI N2' 68 r = fI N2 68 r ∧ fI N2' 69 r = fI N2 69 r ∧ fI N2' 64 r = fI N' 64 r ∧ fI N2 64 r = fI N 64 r := by
  intro n
  induction n with
  | zero => intro N N' hG hb hm; exact ⟨fun _ _ => rfl, fun o N2 h => by cases h⟩
  | succ n ih =>
    intro N N' hG hb hm
    have eF := hG.first
    cases hF : vFirst N r l with
    | none =>
      rw [hF] at eF
      have e1 : vNext r l (n + 1) N = (none, N) := by unfold vNext; rw [hF]
      have e2 : vNext r l (n + 1) N' = (none, N') := by unfold vNext; rw [eF]
      rw [e1, e2]
      exact ⟨fun _ _ => rfl, fun o N2 h => by cases h⟩
    | some x =>
      rw [hF] at eF
      have hx := vFirst_mem hF
      have e1 : vNext r l (n + 1) N = if fI N 66 r < 1 then (none, N) else if vPrice N r x < fI N 64 r then (none, N) else if vPrice N r x < 1 then (none, N) else if vTaken N r x ≤ 0 then vNext r l n (sI N 30 (rf N 140 x) 1) else (some x, eTake N r x (vTaken N r x) (vPrice N r x)) := by
        conv => lhs; unfold vNext
        rw [hF]
      have e2 : vNext r l (n + 1) N' = if fI N 66 r < 1 then (none, N') else if vPrice N r x < fI N' 64 r then (none, N') else if vPrice N r x < 1 then (none, N') else if vTaken N r x ≤ 0 then vNext r l n (sI N' 30 (rf N' 140 x) 1) else (some x, eTake N' r x (vTaken N r x) (vPrice N r x)) := by
        conv => lhs; unfold vNext
        rw [eF]
        show (if fI N' 66 r < 1 then _ else if vPrice N' r x < _ then _ else if vPrice N' r x < 1 then _ else if vTaken N' r x ≤ 0 then _ else (some x, eTake N' r x (vTaken N' r x) (vPrice N' r x))) = _
        rw [hG.price hx, hG.taken hx, hG.1.2.2.2.2.2.1]
      rw [e1, e2]
      by_cases c1 : fI N 66 r < 1
      · rw [if_pos c1, if_pos c1]
        exact ⟨fun _ _ => rfl, fun o N2 h => by cases h⟩
      · rw [if_neg c1, if_neg c1]
        by_cases c2 : vPrice N r x < fI N 64 r
        · have c3 : vPrice N r x < fI N' 64 r := iv_lt.mpr (Int.lt_of_lt_of_le (iv_lt.mp c2) (iv_le.mp hm))
          rw [if_pos c2, if_pos c3]
          exact ⟨fun _ _ => rfl, fun o N2 h => by cases h⟩
        · rw [if_neg c2]
          by_cases c4 : vPrice N r x < 1
          · rw [if_pos c4, if_pos c4]
            refine ⟨fun _ _ => ?_, fun o N2 h => by cases h⟩
            split <;> rfl
          · rw [if_neg c4, if_neg c4]
            have hp := hb.price hx
            by_cases c5 : vTaken N r x ≤ 0
            · rw [if_pos c5, if_pos c5]
              have i1 := hG.out hx
              have i2 := (pOut.out (N := N) (rf N 140 x)).hBe hb
              obtain ⟨g1, g2⟩ := ih _ _ i1 i2 (by rw [fI_sI_ne _ _ _ _ _ _ (by decide), fI_sI_ne _ _ _ _ _ _ (by decide)]; exact hm)
              refine ⟨fun N2 h => ?_, fun o N2 h h69 => ?_⟩
              · split
                · rfl
                · exact g1 N2 h
              · have hle := vNext_le hb hF h
                obtain ⟨K, k1, k2, -, -, -, -, k3⟩ := vNext_some n _ _ _ h
                have k4 := (pOut.out (N := N) (rf N 140 x)).trans k1
                have ho := vFirst_mem k2
                have hpo := (k4.hBe hb).price ho
                rw [k4.pze] at hpo
                have e69 : fI N2 69 r = vPrice K r o := by rw [k3, eTake_69]
                have c3 : ¬ vPrice N r x < fI N' 64 r := fun z => by
                  have z1 := iv_lt.mp z
                  rw [e69] at h69
                  have z2 := iv_le.mp h69
                  omega
                rw [if_neg c3]
                have q := g2 o N2 h (by rw [fI_sI_ne _ _ _ _ _ _ (by decide)]; exact h69)
                rw [fI_sI_ne _ _ _ _ _ _ (by decide), fI_sI_ne _ _ _ _ _ _ (by decide)] at q
                exact q
            · rw [if_neg c5, if_neg c5]
              refine ⟨fun N2 h => (by cases h), fun o N2 h h69 => ?_⟩
              cases h
              rw [eTake_69] at h69
              have c3 : ¬ vPrice N r x < fI N' 64 r := fun z => by
                have z1 := iv_lt.mp z
                have z2 := iv_le.mp h69
                omega
              rw [if_neg c3]
              exact ⟨_, rfl, hG.take hx _ _, by rw [eTake_68, eTake_68], by rw [eTake_69, eTake_69], eTake_64 _ _ _ _ _, eTake_64 _ _ _ _ _⟩
/-- an order that can still take -/
def vAl (N : kx_M) (r o : Nat) : Bool := decide (0 < iv (fI N 147 o)) && (decide (0 < iv (fI N 66 r)) && decide (pz N o ≤ iv (fI N 28 (rf N 140 o))))
def vCnt (N : kx_M) (r : Nat) (l : List Nat) : Nat := (l.filter (vAl N r)).length
theorem iv_mul_nn {a b : Int32} (h1 : 0 ≤ iv a) (h2 : 0 ≤ iv b) (h3 : iv a * iv b < 2147483648) : iv (a * b) = iv a * iv b := iv_mul (by have := Int.mul_nonneg h1 h2; omega) h3
/-- the numbers of a sale found -/
theorem vNext_num {n : Nat} {N N2 : kx_M} {o : Nat} (hb : hB r l N) (h : vNext r l n N = (some o, N2)) : o ∈ l ∧ (∃ K, pOut N K ∧ N2 = eTake K r o (fI N2 68 r) (fI N2 69 r)) ∧ iv (fI N2 69 r) = pz N o ∧ 1 ≤ iv (fI N2 69 r) ∧ iv (fI N2 69 r) ≤ 99 ∧ fI N 64 r ≤ fI N2 69 r ∧ 1 ≤ iv (fI N2 68 r) ∧ iv (fI N2 68 r) ≤ iv (fI N 147 o) ∧ iv (fI N2 68 r) ≤ iv (fI N 66 r) ∧ iv (fI N2 69 r * fI N2 68 r) = iv (fI N2 69 r) * iv (fI N2 68 r) ∧ iv (fI N2 69 r) * iv (fI N2 68 r) ≤ iv (fI N 28 (rf N 140 o)) ∧ (iv (fI N2 68 r) = iv (fI N 147 o) ∨ iv (fI N2 68 r) = iv (fI N 66 r) ∨ iv (fI N 28 (rf N 140 o)) - iv (fI N2 69 r) * iv (fI N2 68 r) < iv (fI N2 69 r)) := by
  obtain ⟨K, k1, k2, k3, k4, k5, k6, k7⟩ := vNext_some n _ _ _ h
  have hK := k1.hBe hb
  have ho := vFirst_mem k2
  have hk7 := k7
  have e69 : fI N2 69 r = vPrice K r o := by rw [k7, eTake_69]
  have e68 : fI N2 68 r = vTaken K r o := by rw [k7, eTake_68]
  have hp := hK.price ho
  rw [k1.pze] at hp
  obtain ⟨-, -, -, -, b5, b6⟩ := hb
  obtain ⟨a1, a2, a3, a4, a5, a6⟩ := b6 o ho
  have hpz : pz N o = iv (fI N 145 o) - iv (fI N 29 (rf N 140 o)) := rfl
  have p1 : 1 ≤ iv (vPrice K r o) := by
    have := mt iv_lt.mpr k5
    rw [iv_1] at this
    omega
  have t1 : 1 ≤ iv (vTaken K r o) := by
    have := mt iv_le.mpr k6
    rw [iv_0] at this
    omega
  have ed : iv (fI N 28 (rf N 140 o) / vPrice K r o) = iv (fI N 28 (rf N 140 o)) / iv (vPrice K r o) ∨ iv (fI N 28 (rf N 140 o)) < 0 := by
    by_cases hn : 0 ≤ iv (fI N 28 (rf N 140 o))
    · exact Or.inl (by rw [iv_div (by omega), Int.tdiv_eq_ediv_of_nonneg hn])
    · exact Or.inr (by omega)
  have et : iv (vTaken K r o) = if (if iv (fI N 66 r) < iv (fI N 147 o) then iv (fI N 66 r) else iv (fI N 147 o)) < iv (fI N 28 (rf N 140 o) / vPrice K r o) then (if iv (fI N 66 r) < iv (fI N 147 o) then iv (fI N 66 r) else iv (fI N 147 o)) else iv (fI N 28 (rf N 140 o) / vPrice K r o) := by
    unfold vTaken
    rw [iv_vMin, iv_vMin, k1.rfe, k1.2.1 _ _ (by decide), k1.2.1 _ _ (by decide), k1.2.1 _ _ (by decide)]
  have ed2 : iv (fI N 28 (rf N 140 o) / vPrice K r o) = iv (fI N 28 (rf N 140 o)) / iv (vPrice K r o) := by
    rcases ed with ed | ed
    · exact ed
    · exfalso
      have : iv (fI N 28 (rf N 140 o) / vPrice K r o) ≤ 0 := by
        rw [iv_div (by omega)]
        have hd := Int.tdiv_nonneg (a := -iv (fI N 28 (rf N 140 o))) (b := iv (vPrice K r o)) (by omega) (by omega)
        rw [Int.neg_tdiv] at hd
        omega
      split at et
      · omega
      · omega
  rw [ed2] at et
  rw [e69, e68]
  have hgm : fI N 64 r ≤ vPrice K r o := by
    rw [iv_le]
    have := mt iv_lt.mpr k4
    rw [k1.2.1 64 _ (by decide)] at this
    omega
  have hml : iv (vPrice K r o * vTaken K r o) = iv (vPrice K r o) * iv (vTaken K r o) ∨ ¬ iv (vPrice K r o) * iv (vTaken K r o) ≤ 100000 := by
    by_cases hq : iv (vPrice K r o) * iv (vTaken K r o) ≤ 100000
    · exact Or.inl (iv_mul_nn (by omega) (by omega) (by omega))
    · exact Or.inr hq
  clear e69 e68 k4 k5 k6 k7 ed hK
  generalize iv (vPrice K r o * vTaken K r o) = ZT at *
  generalize iv (fI N 28 (rf N 140 o)) = P at *
  generalize iv (vPrice K r o) = Z at *
  have hq1 : Z * (P / Z) ≤ P := Int.mul_ediv_self_le (by omega)
  have hq2 : P < Z * (P / Z) + Z := by
    have := Int.lt_mul_ediv_self_add (x := P) (k := Z) (by omega)
    omega
  have hPZ : 0 ≤ P := by
    by_cases hn : 0 ≤ P
    · exact hn
    · exfalso
      have : P / Z < 0 := Int.ediv_neg_of_neg_of_pos (by omega) (by omega)
      split at et <;> omega
  have hT : iv (vTaken K r o) ≤ P / Z := by split at et <;> omega
  have hm : Z * iv (vTaken K r o) ≤ Z * (P / Z) := Int.mul_le_mul_of_nonneg_left hT (by omega)
  have hnn : 0 ≤ Z * iv (vTaken K r o) := Int.mul_nonneg (by omega) (by omega)
  refine ⟨ho, ⟨K, k1, hk7⟩, ?_, ?_, ?_, hgm, t1, ?_, ?_, ?_, ?_, ?_⟩
  · omega
  · omega
  · omega
  · split at et <;> omega
  · split at et <;> omega
  · omega
  · omega
  · generalize iv (vTaken K r o) = T at *
    by_cases hTe : T = P / Z
    · right; right
      subst hTe
      omega
    · split at et
      · split at et <;> omega
      · omega
end HN
