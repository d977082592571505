/-! THE HALL: what holds between the law's calls. A i: the list in the hall's field i (200 growers, 201 crops, 202 lots, 203 row, 204 buyers, 205 orders, 206 rail, 207 sales), A 208 the quotas, A 209 the run -/
/-- what was there is as it was, but for the int fields of F -/
def pAg (F : Nat → Prop) (M N : kx_M) : Prop := ∀ x, kd M x ≠ 0 → kd N x = kd M x ∧ (∀ i, ¬ F i → fI N i x = fI M i x) ∧ ∀ i, fR N i x = fR M i x
def pAa (M N : kx_M) : Prop := ∀ x j, kd M x = 3 → aI N x j = aI M x j
theorem pAg.rfl {F : Nat → Prop} {M : kx_M} : pAg F M M := fun _ _ => ⟨Eq.refl _, fun _ _ => Eq.refl _, fun _ => Eq.refl _⟩
theorem pAg.tr {F G : Nat → Prop} {M N K : kx_M} (h : pAg F M N) (g : pAg G N K) : pAg (fun i => F i ∨ G i) M K := fun x hx => by
  obtain ⟨a1, a2, a3⟩ := h x hx
  obtain ⟨b1, b2, b3⟩ := g x (by rw [a1]; exact hx)
  exact ⟨b1.trans a1, fun i hi => (b2 i (fun z => hi (Or.inr z))).trans (a2 i (fun z => hi (Or.inl z))), fun i => (b3 i).trans (a3 i)⟩
theorem pAg.mono {F G : Nat → Prop} {M N : kx_M} (h : pAg F M N) (hg : ∀ i, F i → G i) : pAg G M N := fun x hx => ⟨(h x hx).1, fun i hi => (h x hx).2.1 i (fun z => hi (hg i z)), (h x hx).2.2⟩
theorem pAg_sI (M : kx_M) (i a : Nat) (v : Int32) : pAg (fun j => j = i) M (sI M i a v) := fun x _ => ⟨Eq.refl _, fun _ hj => fI_sI_ne _ _ _ _ _ _ hj, fun _ => Eq.refl _⟩
theorem pAg_sL (M : kx_M) (a : Nat) (l : List Nat) : pAg (fun _ => False) M (sL M a l) := fun x _ => ⟨Eq.refl _, fun _ _ => Eq.refl _, fun _ => Eq.refl _⟩
theorem pAg_sA (M : kx_M) (a i : Nat) (v : Int32) : pAg (fun _ => False) M (sA M a i v) := fun x _ => ⟨Eq.refl _, fun _ _ => Eq.refl _, fun _ => Eq.refl _⟩
theorem pAg_off {M N : kx_M} (h : pOff M N) : pAg rn M N := fun x _ => ⟨by rw [h.1.1], fun i hi => h.2 i x hi, fun i => by rw [h.1.2.2.1]⟩
/-! sums -/
def sm (f : Nat → Int32) : List Nat → Int32
  | [] => 0
  | x :: l => f x + sm f l
def sz (f : Nat → Int) : List Nat → Int
  | [] => 0
  | x :: l => f x + sz f l
theorem sm_congr {f g : Nat → Int32} : ∀ (l : List Nat), (∀ x ∈ l, g x = f x) → sm g l = sm f l := by
  intro l
  induction l with
  | nil => intro _; exact (Eq.refl _)
  | cons x l ih =>
    intro h
    show g x + sm g l = f x + sm f l
    rw [h x List.mem_cons_self, ih (fun y hy => h y (List.mem_cons_of_mem _ hy))]
theorem sz_congr {f g : Nat → Int} : ∀ (l : List Nat), (∀ x ∈ l, g x = f x) → sz g l = sz f l := by
  intro l
  induction l with
  | nil => intro _; exact (Eq.refl _)
  | cons x l ih =>
    intro h
    show g x + sz g l = f x + sz f l
    rw [h x List.mem_cons_self, ih (fun y hy => h y (List.mem_cons_of_mem _ hy))]
theorem sm_app (f : Nat → Int32) (l k : List Nat) : sm f (l ++ k) = sm f l + sm f k := by
  induction l with
  | nil => show sm f k = 0 + sm f k; rw [Int32.zero_add]
  | cons x l ih => show f x + sm f (l ++ k) = f x + sm f l + sm f k; rw [ih, Int32.add_assoc]
theorem sz_app (f : Nat → Int) (l k : List Nat) : sz f (l ++ k) = sz f l + sz f k := by
  induction l with
  | nil => show sz f k = 0 + sz f k; omega
  | cons x l ih => show f x + sz f (l ++ k) = f x + sz f l + sz f k; rw [ih]; omega
/-- one of a list without doubles changes -/
theorem sm_upd {f g : Nat → Int32} {a : Nat} : ∀ (l : List Nat), l.Nodup → a ∈ l → (∀ x ∈ l, x ≠ a → g x = f x) → sm g l = sm f l + (g a - f a) := by
  intro l
  induction l with
  | nil => intro _ h; exact absurd h List.not_mem_nil
  | cons x l ih =>
    intro hn ha h
    obtain ⟨h1, h2⟩ := List.nodup_cons.mp hn
    show g x + sm g l = f x + sm f l + (g a - f a)
    by_cases hx : x = a
    · subst hx
      rw [sm_congr l (fun y hy => h y (List.mem_cons_of_mem _ hy) (fun z => h1 (by rw [← z]; exact hy)))]
      generalize g x = u
      generalize f x = v
      generalize sm f l = w
      grind
    · rw [h x List.mem_cons_self hx, ih h2 ((List.mem_cons.mp ha).resolve_left (fun z => hx z.symm)) (fun y hy => h y (List.mem_cons_of_mem _ hy))]
      generalize g a = u
      generalize f a = v
      generalize sm f l = w
      generalize f x = q
      grind
theorem sz_upd {f g : Nat → Int} {a : Nat} : ∀ (l : List Nat), l.Nodup → a ∈ l → (∀ x ∈ l, x ≠ a → g x = f x) → sz g l = sz f l + (g a - f a) := by
  intro l
  induction l with
  | nil => intro _ h; exact absurd h List.not_mem_nil
  | cons x l ih =>
    intro hn ha h
    obtain ⟨h1, h2⟩ := List.nodup_cons.mp hn
    show g x + sz g l = f x + sz f l + (g a - f a)
    by_cases hx : x = a
    · subst hx
      rw [sz_congr l (fun y hy => h y (List.mem_cons_of_mem _ hy) (fun z => h1 (by rw [← z]; exact hy)))]
      omega
    · rw [h x List.mem_cons_self hx, ih h2 ((List.mem_cons.mp ha).resolve_left (fun z => hx z.symm)) (fun y hy => h y (List.mem_cons_of_mem _ hy))]
      omega
theorem sz_nn {f : Nat → Int} : ∀ (l : List Nat), (∀ x ∈ l, 0 ≤ f x) → 0 ≤ sz f l := by
  intro l
  induction l with
  | nil => intro _; exact Int.le_refl 0
  | cons x l ih =>
    intro h
    have h1 := h x List.mem_cons_self
    have h2 := ih (fun y hy => h y (List.mem_cons_of_mem _ hy))
    show 0 ≤ f x + sz f l
    omega
theorem sz_ge {f : Nat → Int} {a : Nat} : ∀ (l : List Nat), (∀ x ∈ l, 0 ≤ f x) → a ∈ l → f a ≤ sz f l := by
  intro l
  induction l with
  | nil => intro _ h; exact absurd h List.not_mem_nil
  | cons x l ih =>
    intro h ha
    have h1 := h x List.mem_cons_self
    have h3 := sz_nn l (fun y hy => h y (List.mem_cons_of_mem _ hy))
    show f a ≤ f x + sz f l
    rcases List.mem_cons.mp ha with rfl | hb
    · omega
    · have h2 := ih (fun y hy => h y (List.mem_cons_of_mem _ hy)) hb
      omega
theorem sz_len {f : Nat → Int} : ∀ (l : List Nat), (∀ x ∈ l, 1 ≤ f x) → (l.length : Int) ≤ sz f l := by
  intro l
  induction l with
  | nil => intro _; exact Int.le_refl 0
  | cons x l ih =>
    intro h
    have h1 := h x List.mem_cons_self
    have h2 := ih (fun y hy => h y (List.mem_cons_of_mem _ hy))
    show _ ≤ f x + sz f l
    rw [List.length_cons]
    omega
/-! the parts of what holds -/
def hS (m : Nat) (A : Nat → Nat) (M : kx_M) : Prop := kd M m = 11 ∧ (∀ i, 200 ≤ i → i ≤ 209 → fR M i m = some (A i)) ∧ (∀ i, 200 ≤ i → i ≤ 207 → kd M (A i) = 1) ∧ kd M (A 208) = 3 ∧ kd M (A 209) = 4 ∧ ∀ i j, 200 ≤ i → i ≤ 207 → 200 ≤ j → j ≤ 207 → A i = A j → i = j
/-- a grower's number and the grower -/
def gLk (A : Nat → Nat) (M : kx_M) (fn fr x : Nat) : Prop := ∃ k g, (mL M (A 200))[k]? = some g ∧ fI M fn x = nI k ∧ fR M fr x = some g
def hG (A : Nat → Nat) (M : kx_M) : Prop := (mL M (A 200)).Nodup ∧ (mL M (A 200)).length ≤ 3 ∧ ∀ g ∈ mL M (A 200), kd M g = 6 ∧ (∃ q, fR M 100 g = some q ∧ kd M q = 3 ∧ ∀ j, j < 3 → 0 ≤ iv (aI M q j) ∧ iv (aI M q j) ≤ 500) ∧ 0 ≤ iv (fI M 102 g) ∧ iv (fI M 102 g) ≤ 3 ∧ 0 ≤ iv (fI M 103 g) ∧ iv (fI M 103 g) ≤ 100
def hU (A : Nat → Nat) (M : kx_M) : Prop := (mL M (A 204)).Nodup ∧ (mL M (A 204)).length ≤ 3 ∧ (∀ i b, (mL M (A 204))[i]? = some b → fI M 20 b = nI i) ∧ ∀ b ∈ mL M (A 204), kd M b = 2 ∧ (∃ q, fR M 22 b = some q ∧ kd M q = 3 ∧ ∀ j, j < 3 → 0 ≤ iv (aI M q j)) ∧ (0 ≤ iv (fI M 21 b) ∧ iv (fI M 21 b) ≤ 9) ∧ (0 ≤ iv (fI M 24 b) ∧ iv (fI M 24 b) ≤ 9) ∧ (-1 ≤ iv (fI M 25 b) ∧ iv (fI M 25 b) ≤ 9999) ∧ -6 ≤ iv (fI M 23 b) ∧ 0 ≤ iv (fI M 26 b) ∧ iv (fI M 23 b) + 2 * iv (fI M 26 b) ≤ 2000
def hY (A : Nat → Nat) (M : kx_M) : Prop := (A 208 :: ((mL M (A 200)).map (rf M 100) ++ (mL M (A 204)).map (rf M 22))).Nodup ∧ ∀ j, j < 3 → aI M (A 208) j = 500
def hC (m : Nat) (A : Nat → Nat) (M : kx_M) : Prop := (mL M (A 201)).Nodup ∧ (mL M (A 201)).length ≤ 6 ∧ ∀ c ∈ mL M (A 201), kd M c = 5 ∧ gLk A M 81 80 c ∧ (0 ≤ iv (fI M 82 c) ∧ iv (fI M 82 c) ≤ 2) ∧ (0 ≤ iv (fI M 86 c) ∧ iv (fI M 86 c) ≤ iv (fI M 210 m)) ∧ (0 ≤ iv (fI M 84 c) ∧ iv (fI M 84 c) ≤ 12 * iv (fI M 210 m)) ∧ (fI M 85 c = if vSum (fI M 82 c) ≤ fI M 84 c then 1 else 0)
def hO (A : Nat → Nat) (M : kx_M) : Prop := (mL M (A 205)).length ≤ 9 ∧ ∀ o ∈ mL M (A 205), kd M o = 8 ∧ (∃ b, b ∈ mL M (A 204) ∧ fR M 140 o = some b) ∧ 1 ≤ iv (fI M 145 o) ∧ iv (fI M 145 o) ≤ 99
/-- a lot -/
def pLot (A : Nat → Nat) (M : kx_M) (x : Nat) : Prop := kd M x = 7 ∧ gLk A M 122 121 x ∧ (0 ≤ iv (fI M 123 x) ∧ iv (fI M 123 x) ≤ 2) ∧ (0 ≤ iv (fI M 125 x) ∧ iv (fI M 125 x) ≤ 60) ∧ (0 ≤ iv (fI M 127 x) ∧ 20 * iv (fI M 127 x) < iv (fI M 125 x) + 20) ∧ (0 ≤ iv (fI M 126 x) ∧ iv (fI M 126 x) ≤ 110) ∧ ((fI M 129 x = 0 ∨ fI M 129 x = 1) ∧ 1 ≤ iv (fI M 125 x) ∨ (fI M 129 x = 2 ∨ fI M 129 x = 3) ∧ iv (fI M 125 x) = 0)
def hL (A : Nat → Nat) (M : kx_M) : Prop := (mL M (A 202)).Nodup ∧ (mL M (A 202)).length ≤ 16 ∧ (∀ i x, (mL M (A 202))[i]? = some x → fI M 120 x = nI i) ∧ ∀ x ∈ mL M (A 202), pLot A M x
/-- the row; e: a lot that is told to be in the row and isn't -/
def hR (A : Nat → Nat) (M : kx_M) (e : Nat) : Prop := (mL M (A 203)).Nodup ∧ (∀ x ∈ mL M (A 203), x ∈ mL M (A 202) ∧ fI M 129 x = 1) ∧ (mL M (A 203)).length + e = ((mL M (A 202)).filter (fun x => decide (fI M 129 x = 1))).length
def hT (A : Nat → Nat) (M : kx_M) : Prop := ∀ q ∈ mL M (A 206), kd M q = 10 ∧ (∃ b, b ∈ mL M (A 204) ∧ fR M 180 q = some b) ∧ (0 ≤ iv (fI M 181 q) ∧ iv (fI M 181 q) ≤ 2) ∧ 1 ≤ iv (fI M 182 q) ∧ 0 ≤ iv (fI M 183 q)
def hZ (A : Nat → Nat) (M : kx_M) : Prop := (mL M (A 207)).length ≤ 20 ∧ ∀ s ∈ mL M (A 207), pSaleAt M s
/-- a stock's stems -/
def stk (M : kx_M) (b : Nat) : Int := iv (aI M (rf M 22 b) 0) + iv (aI M (rf M 22 b) 1) + iv (aI M (rf M 22 b) 2)
def nStem (m : Nat) (A : Nat → Nat) (cut bound : Int) (M : kx_M) : Prop := bound + iv (fI M 215 m) + sz (fun x => iv (fI M 125 x)) (mL M (A 202)) + sz (stk M) (mL M (A 204)) + sz (fun q => iv (fI M 182 q)) (mL M (A 206)) = cut ∧ 0 ≤ bound ∧ 0 ≤ iv (fI M 215 m) ∧ cut ≤ 60 * ((mL M (A 202)).length : Int)
def nPail (m : Nat) (A : Nat → Nat) (M : kx_M) : Prop := fI M 212 m + sm (fI M 127) (mL M (A 202)) + sm (fI M 26) (mL M (A 204)) = 60
def nCoin (m : Nat) (A : Nat → Nat) (K : Int32) (M : kx_M) : Prop := fI M 214 m + sm (fI M 23) (mL M (A 204)) + sm (fI M 101) (mL M (A 200)) = K
def nSold (m : Nat) (A : Nat → Nat) (M : kx_M) : Prop := sm (fI M 104) (mL M (A 200)) = fI M 216 m
def nMisc (m : Nat) (H : Int) (M : kx_M) : Prop := (0 ≤ iv (fI M 210 m) ∧ iv (fI M 210 m) ≤ H) ∧ (0 ≤ iv (fI M 211 m) ∧ iv (fI M 211 m) ≤ 9) ∧ fI M 213 m = 2
section OF
variable {m : Nat} {A : Nat → Nat} {F : Nat → Prop} {M N : kx_M}
theorem hS_of (h : hS m A M) (p : pAg F M N) : hS m A N := by
  obtain ⟨h1, h2, h3, h4, h5, h6⟩ := h
  have e := p m (by omega)
  exact ⟨by rw [e.1, h1], fun i a b => by rw [e.2.2, h2 i a b], fun i a b => by rw [(p (A i) (by rw [h3 i a b]; decide)).1, h3 i a b], by rw [(p _ (by omega)).1, h4], by rw [(p _ (by omega)).1, h5], h6⟩
theorem gLk_of {fn fr x : Nat} (p : pAg F M N) (hl : mL N (A 200) = mL M (A 200)) (hx : kd M x ≠ 0) (hf : ¬ F fn) (h : gLk A M fn fr x) : gLk A N fn fr x := by
  obtain ⟨k, g, h1, h2, h3⟩ := h
  obtain ⟨e1, e2, e3⟩ := p x hx
  exact ⟨k, g, by rw [hl]; exact h1, by rw [e2 _ hf]; exact h2, by rw [e3]; exact h3⟩
theorem hG_of (h : hG A M) (p : pAg F M N) (hl : mL N (A 200) = mL M (A 200)) (ha : ∀ g ∈ mL M (A 200), ∀ q, fR M 100 g = some q → ∀ j, aI N q j = aI M q j) (h1 : ¬ F 102) (h2 : ¬ F 103) : hG A N := by
  obtain ⟨a1, a2, a3⟩ := h
  refine ⟨by rw [hl]; exact a1, by rw [hl]; exact a2, fun g hg => ?_⟩
  rw [hl] at hg
  obtain ⟨b1, ⟨q, b2, b3, b4⟩, b5⟩ := a3 g hg
  obtain ⟨e1, e2, e3⟩ := p g (by omega)
  rw [e1, e2 _ h1, e2 _ h2]
  refine ⟨b1, ⟨q, by rw [e3]; exact b2, by rw [(p q (by omega)).1]; exact b3, fun j hj => ?_⟩, b5⟩
  rw [ha g hg q b2 j]
  exact b4 j hj
theorem hU_of (h : hU A M) (p : pAg F M N) (hl : mL N (A 204) = mL M (A 204)) (ha : ∀ b ∈ mL M (A 204), ∀ q, fR M 22 b = some q → ∀ j, aI N q j = aI M q j) (hF : ¬ F 20 ∧ ¬ F 21 ∧ ¬ F 24 ∧ ¬ F 25 ∧ ¬ F 23 ∧ ¬ F 26) : hU A N := by
  obtain ⟨a1, a2, a0, a3⟩ := h
  refine ⟨by rw [hl]; exact a1, by rw [hl]; exact a2, fun i b hb => ?_, fun b hb => ?_⟩
  · rw [hl] at hb
    rw [(p b (by rw [(a3 b (List.mem_of_getElem? hb)).1]; decide)).2.1 _ hF.1]
    exact a0 i b hb
  rw [hl] at hb
  obtain ⟨b1, ⟨q, b2, b3, b4⟩, b5⟩ := a3 b hb
  obtain ⟨e1, e2, e3⟩ := p b (by omega)
  rw [e1, e2 _ hF.2.1, e2 _ hF.2.2.1, e2 _ hF.2.2.2.1, e2 _ hF.2.2.2.2.1, e2 _ hF.2.2.2.2.2]
  refine ⟨b1, ⟨q, by rw [e3]; exact b2, by rw [(p q (by omega)).1]; exact b3, fun j hj => ?_⟩, b5⟩
  rw [ha b hb q b2 j]
  exact b4 j hj
theorem rf_of {x i : Nat} (p : pAg F M N) (hx : kd M x ≠ 0) : rf N i x = rf M i x := by unfold rf; rw [(p x hx).2.2]
theorem hY_of (h : hY A M) (hs : hS m A M) (hg : hG A M) (hu : hU A M) (p : pAg F M N) (hl : mL N (A 200) = mL M (A 200)) (hl2 : mL N (A 204) = mL M (A 204)) (ha : ∀ j, aI N (A 208) j = aI M (A 208) j) : hY A N := by
  have e1 : (mL M (A 200)).map (rf N 100) = (mL M (A 200)).map (rf M 100) := List.map_congr_left (fun g hg' => rf_of p (by rw [(hg.2.2 g hg').1]; decide))
  have e2 : (mL M (A 204)).map (rf N 22) = (mL M (A 204)).map (rf M 22) := List.map_congr_left (fun g hg' => rf_of p (by rw [(hu.2.2.2 g hg').1]; decide))
  refine ⟨by rw [hl, hl2, e1, e2]; exact h.1, fun j hj => by rw [ha]; exact h.2 j hj⟩
theorem hC_of (h : hC m A M) (hs : hS m A M) (p : pAg F M N) (hl : mL N (A 201) = mL M (A 201)) (hl2 : mL N (A 200) = mL M (A 200)) (hF : ¬ F 81 ∧ ¬ F 82 ∧ ¬ F 84 ∧ ¬ F 85 ∧ ¬ F 86 ∧ ¬ F 210) : hC m A N := by
  obtain ⟨a1, a2, a3⟩ := h
  have em := (p m (by rw [hs.1]; decide)).2.1 _ hF.2.2.2.2.2
  refine ⟨by rw [hl]; exact a1, by rw [hl]; exact a2, fun c hc => ?_⟩
  rw [hl] at hc
  obtain ⟨b1, b2, b5⟩ := a3 c hc
  obtain ⟨e1, e2, e3⟩ := p c (by omega)
  rw [e1, e2 _ hF.2.1, e2 _ hF.2.2.1, e2 _ hF.2.2.2.1, e2 _ hF.2.2.2.2.1, em]
  exact ⟨b1, gLk_of p hl2 (by omega) hF.1 b2, b5⟩
theorem hO_of (h : hO A M) (p : pAg F M N) (hl : mL N (A 205) = mL M (A 205)) (hl2 : mL N (A 204) = mL M (A 204)) (hF : ¬ F 145) : hO A N := by
  obtain ⟨a1, a3⟩ := h
  refine ⟨by rw [hl]; exact a1, fun o ho => ?_⟩
  rw [hl] at ho
  obtain ⟨b1, ⟨b, b2, b3⟩, b5⟩ := a3 o ho
  obtain ⟨e1, e2, e3⟩ := p o (by omega)
  rw [e1, e2 _ hF, e3, hl2]
  exact ⟨b1, ⟨b, b2, b3⟩, b5⟩
theorem pLot_of {x : Nat} (h : pLot A M x) (p : pAg F M N) (hl2 : mL N (A 200) = mL M (A 200)) (hF : ¬ F 122 ∧ ¬ F 123 ∧ ¬ F 125 ∧ ¬ F 126 ∧ ¬ F 127 ∧ ¬ F 129) : pLot A N x := by
  obtain ⟨b1, b2, b5⟩ := h
  obtain ⟨e1, e2, e3⟩ := p x (by omega)
  unfold pLot
  rw [e1, e2 _ hF.2.1, e2 _ hF.2.2.1, e2 _ hF.2.2.2.1, e2 _ hF.2.2.2.2.1, e2 _ hF.2.2.2.2.2]
  exact ⟨b1, gLk_of p hl2 (by omega) hF.1 b2, b5⟩
theorem hL_of (h : hL A M) (p : pAg F M N) (hl : mL N (A 202) = mL M (A 202)) (hl2 : mL N (A 200) = mL M (A 200)) (h0 : ¬ F 120) (hF : ¬ F 122 ∧ ¬ F 123 ∧ ¬ F 125 ∧ ¬ F 126 ∧ ¬ F 127 ∧ ¬ F 129) : hL A N := by
  obtain ⟨a1, a2, a0, a3⟩ := h
  refine ⟨by rw [hl]; exact a1, by rw [hl]; exact a2, fun i x hx => ?_, fun x hx => ?_⟩
  · rw [hl] at hx
    rw [(p x (by rw [(a3 x (List.mem_of_getElem? hx)).1]; decide)).2.1 _ h0]
    exact a0 i x hx
  · rw [hl] at hx
    exact pLot_of (a3 x hx) p hl2 hF
theorem hR_of {e : Nat} (h : hR A M e) (hL' : hL A M) (p : pAg F M N) (hl : mL N (A 202) = mL M (A 202)) (hl2 : mL N (A 203) = mL M (A 203)) (hF : ¬ F 129) : hR A N e := by
  obtain ⟨a1, a2, a3⟩ := h
  have e1 : ∀ x ∈ mL M (A 202), fI N 129 x = fI M 129 x := fun x hx => (p x (by rw [(hL'.2.2.2 x hx).1]; decide)).2.1 _ hF
  refine ⟨by rw [hl2]; exact a1, fun x hx => ?_, ?_⟩
  · rw [hl2] at hx
    obtain ⟨b1, b2⟩ := a2 x hx
    rw [hl, e1 x b1]
    exact ⟨b1, b2⟩
  · rw [hl, hl2, a3]
    exact congrArg List.length (List.filter_congr (fun x hx => by rw [e1 x hx])).symm
theorem hT_of (h : hT A M) (p : pAg F M N) (hl : mL N (A 206) = mL M (A 206)) (hl2 : mL N (A 204) = mL M (A 204)) (hF : ¬ F 181 ∧ ¬ F 182 ∧ ¬ F 183) : hT A N := by
  intro q hq
  rw [hl] at hq
  obtain ⟨b1, ⟨b, b2, b3⟩, b5⟩ := h q hq
  obtain ⟨e1, e2, e3⟩ := p q (by omega)
  rw [e1, e2 _ hF.1, e2 _ hF.2.1, e2 _ hF.2.2, e3, hl2]
  exact ⟨b1, ⟨b, b2, b3⟩, b5⟩
theorem pSaleAt_of {s : Nat} (h : pSaleAt M s) (p : pAg F M N) : pSaleAt N s := by
  obtain ⟨b1, ⟨q, b2, b3⟩, r, b4, b5⟩ := h
  obtain ⟨e1, e2, e3⟩ := p s (by omega)
  exact ⟨by rw [e1, b1], ⟨q, by rw [e3, b2], by rw [(p q (by omega)).1, b3]⟩, r, by rw [e3, b4], by rw [(p r (by omega)).1, b5]⟩
theorem hZ_of (h : hZ A M) (p : pAg F M N) (hl : mL N (A 207) = mL M (A 207)) : hZ A N := ⟨by rw [hl]; exact h.1, fun s hs => pSaleAt_of (h.2 s (by rw [← hl]; exact hs)) p⟩
theorem nStem_of {cut bound : Int} (h : nStem m A cut bound M) (hs : hS m A M) (hL' : hL A M) (hu : hU A M) (ht : hT A M) (p : pAg F M N) (hl : mL N (A 202) = mL M (A 202)) (hl2 : mL N (A 204) = mL M (A 204)) (hl3 : mL N (A 206) = mL M (A 206)) (ha : ∀ b ∈ mL M (A 204), ∀ q, fR M 22 b = some q → ∀ j, aI N q j = aI M q j) (hF : ¬ F 125 ∧ ¬ F 182 ∧ ¬ F 215) : nStem m A cut bound N := by
  have e1 : sz (fun x => iv (fI N 125 x)) (mL M (A 202)) = sz (fun x => iv (fI M 125 x)) (mL M (A 202)) := sz_congr _ (fun x hx => by rw [(p x (by rw [(hL'.2.2.2 x hx).1]; decide)).2.1 _ hF.1])
  have e2 : sz (stk N) (mL M (A 204)) = sz (stk M) (mL M (A 204)) := sz_congr _ (fun b hb => by
    obtain ⟨b1, ⟨q, b2, b3, -⟩, -⟩ := hu.2.2.2 b hb
    have hq : rf M 22 b = q := by unfold rf; rw [b2]; rfl
    unfold stk
    rw [rf_of p (by omega), hq, ha b hb q b2, ha b hb q b2, ha b hb q b2])
  have e3 : sz (fun q => iv (fI N 182 q)) (mL M (A 206)) = sz (fun q => iv (fI M 182 q)) (mL M (A 206)) := sz_congr _ (fun x hx => by rw [(p x (by rw [(ht x hx).1]; decide)).2.1 _ hF.2.1])
  have em := (p m (by rw [hs.1]; decide)).2.1 _ hF.2.2
  unfold nStem
  rw [hl, hl2, hl3, e1, e2, e3, em]
  exact h
theorem nPail_of (h : nPail m A M) (hs : hS m A M) (hL' : hL A M) (hu : hU A M) (p : pAg F M N) (hl : mL N (A 202) = mL M (A 202)) (hl2 : mL N (A 204) = mL M (A 204)) (hF : ¬ F 127 ∧ ¬ F 26 ∧ ¬ F 212) : nPail m A N := by
  have e1 : sm (fI N 127) (mL M (A 202)) = sm (fI M 127) (mL M (A 202)) := sm_congr _ (fun x hx => (p x (by rw [(hL'.2.2.2 x hx).1]; decide)).2.1 _ hF.1)
  have e2 : sm (fI N 26) (mL M (A 204)) = sm (fI M 26) (mL M (A 204)) := sm_congr _ (fun x hx => (p x (by rw [(hu.2.2.2 x hx).1]; decide)).2.1 _ hF.2.1)
  have em := (p m (by rw [hs.1]; decide)).2.1 _ hF.2.2
  unfold nPail
  rw [hl, hl2, e1, e2, em]
  exact h
theorem nCoin_of {K : Int32} (h : nCoin m A K M) (hs : hS m A M) (hg : hG A M) (hu : hU A M) (p : pAg F M N) (hl : mL N (A 200) = mL M (A 200)) (hl2 : mL N (A 204) = mL M (A 204)) (hF : ¬ F 23 ∧ ¬ F 101 ∧ ¬ F 214) : nCoin m A K N := by
  have e1 : sm (fI N 101) (mL M (A 200)) = sm (fI M 101) (mL M (A 200)) := sm_congr _ (fun x hx => (p x (by rw [(hg.2.2 x hx).1]; decide)).2.1 _ hF.2.1)
  have e2 : sm (fI N 23) (mL M (A 204)) = sm (fI M 23) (mL M (A 204)) := sm_congr _ (fun x hx => (p x (by rw [(hu.2.2.2 x hx).1]; decide)).2.1 _ hF.1)
  have em := (p m (by rw [hs.1]; decide)).2.1 _ hF.2.2
  unfold nCoin
  rw [hl, hl2, e1, e2, em]
  exact h
theorem nSold_of (h : nSold m A M) (hs : hS m A M) (hg : hG A M) (p : pAg F M N) (hl : mL N (A 200) = mL M (A 200)) (hF : ¬ F 104 ∧ ¬ F 216) : nSold m A N := by
  have e1 : sm (fI N 104) (mL M (A 200)) = sm (fI M 104) (mL M (A 200)) := sm_congr _ (fun x hx => (p x (by rw [(hg.2.2 x hx).1]; decide)).2.1 _ hF.1)
  have em := (p m (by rw [hs.1]; decide)).2.1 _ hF.2
  unfold nSold
  rw [hl, e1, em]
  exact h
theorem nMisc_of {H : Int} (h : nMisc m H M) (hs : hS m A M) (p : pAg F M N) (hF : ¬ F 210 ∧ ¬ F 211 ∧ ¬ F 213) : nMisc m H N := by
  have e := (p m (by rw [hs.1]; decide)).2.1
  unfold nMisc
  rw [e _ hF.1, e _ hF.2.1, e _ hF.2.2]
  exact h
end OF
/-- all that holds -/
def hI (m : Nat) (A : Nat → Nat) (cut bound : Int) (K : Int32) (H : Int) (e : Nat) (M : kx_M) : Prop := hS m A M ∧ hG A M ∧ hU A M ∧ hY A M ∧ hC m A M ∧ hO A M ∧ hL A M ∧ hR A M e ∧ hT A M ∧ hZ A M ∧ nStem m A cut bound M ∧ nPail m A M ∧ nCoin m A K M ∧ nSold m A M ∧ nMisc m H M
