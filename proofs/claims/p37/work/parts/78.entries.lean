/-! SALES AS ENTRIES: cell, buyer, order, stems, price, buckets; the newest first -/
abbrev kx_E1 : Type := Nat × Nat × Option Nat × Int32 × Int32 × Int32
def eS (e : kx_E1) : Nat := e.1
def eB (e : kx_E1) : Nat := e.2.1
def eO (e : kx_E1) : Option Nat := e.2.2.1
def eT (e : kx_E1) : Int32 := e.2.2.2.1
def eP (e : kx_E1) : Int32 := e.2.2.2.2.1
def eK (e : kx_E1) : Int32 := e.2.2.2.2.2
/-- what an entry adds to field i of cell x -/
def dE (m t g : Nat) (e : kx_E1) (i x : Nat) : Int32 :=
  if i = 23 then (if x = eB e then -(eP e * eT e + 2 * eK e) else 0) else
  if i = 26 then (if x = eB e then eK e else 0) else
  if i = 214 then (if x = m then eP e * eT e - vShare (eP e * eT e) + 2 * eK e else 0) else
  if i = 101 then (if x = g then vShare (eP e * eT e) else 0) else
  if i = 104 then (if x = g then eT e else 0) else
  if i = 125 then (if x = t then -eT e else 0) else
  if i = 127 then (if x = t then -eK e else 0) else
  if i = 216 then (if x = m then eT e else 0) else
  if i = 217 then (if x = m then eP e * eT e else 0) else
  if i = 146 then (if eO e = some x then -eT e else 0) else 0
def dL (m t g : Nat) : List kx_E1 → Nat → Nat → Int32
  | [], _, _ => 0
  | e :: l, i, x => dL m t g l i x + dE m t g e i x
theorem i_sub0 (x y : Int32) : x - y = x + -y := Int32.sub_eq_add_neg x y
theorem bk_all (M : kx_M) (m t g : Nat) (e : kx_E1) (i x : Nat) : fI (eBook M m t (eB e) g (eO e) (eT e) (eK e) (eP e * eT e) (vShare (eP e * eT e))) i x = fI M i x + dE m t g e i x := by
  unfold dE
  generalize eP e * eT e = pd
  generalize vShare pd = sh
  by_cases h23 : i = 23
  · subst h23; rw [bk_23, if_pos rfl]; split
    · rename_i hx; rw [hx, i_sub0]
    · rw [Int32.add_zero]
  rw [if_neg h23]
  by_cases h26 : i = 26
  · subst h26; rw [bk_26, if_pos rfl]; split
    · rename_i hx; rw [hx]
    · rw [Int32.add_zero]
  rw [if_neg h26]
  by_cases h214 : i = 214
  · subst h214; rw [bk_214, if_pos rfl]; split
    · rename_i hx; rw [hx]
    · rw [Int32.add_zero]
  rw [if_neg h214]
  by_cases h101 : i = 101
  · subst h101; rw [bk_101, if_pos rfl]; split
    · rename_i hx; rw [hx]
    · rw [Int32.add_zero]
  rw [if_neg h101]
  by_cases h104 : i = 104
  · subst h104; rw [bk_104, if_pos rfl]; split
    · rename_i hx; rw [hx]
    · rw [Int32.add_zero]
  rw [if_neg h104]
  by_cases h125 : i = 125
  · subst h125; rw [bk_125, if_pos rfl]; split
    · rename_i hx; rw [hx, i_sub0]
    · rw [Int32.add_zero]
  rw [if_neg h125]
  by_cases h127 : i = 127
  · subst h127; rw [bk_127, if_pos rfl]; split
    · rename_i hx; rw [hx, i_sub0]
    · rw [Int32.add_zero]
  rw [if_neg h127]
  by_cases h216 : i = 216
  · subst h216; rw [bk_216, if_pos rfl]; split
    · rename_i hx; rw [hx]
    · rw [Int32.add_zero]
  rw [if_neg h216]
  by_cases h217 : i = 217
  · subst h217; rw [bk_217, if_pos rfl]; split
    · rename_i hx; rw [hx]
    · rw [Int32.add_zero]
  rw [if_neg h217]
  by_cases h146 : i = 146
  · subst h146; rw [bk_146, if_pos rfl]; split
    · rw [i_sub0]
    · rw [Int32.add_zero]
  rw [if_neg h146, Int32.add_zero, fI_eBook_o i x ⟨h23, h26, h214, h101, h104, h125, h127, h216, h217⟩ h146]
theorem i_m1 (x : Int32) : -1 * x = -x := by grind
theorem bk_un (M : kx_M) (m t g : Nat) (e : kx_E1) (i x : Nat) : fI (eBook M m t (eB e) g (eO e) (-1 * eT e) (-1 * eK e) (-1 * eP e * eT e) (-1 * vShare (eP e * eT e))) i x = fI M i x - dE m t g e i x := by
  unfold dE
  have e1 : -1 * eP e * eT e = -(eP e * eT e) := by generalize eP e = u; generalize eT e = v; grind
  rw [e1, i_m1, i_m1, i_m1]
  generalize eP e * eT e = pd
  generalize vShare pd = sh
  generalize eT e = st
  generalize eK e = k
  have z : ∀ v : Int32, v = v - 0 := fun v => by grind
  by_cases h23 : i = 23
  · subst h23; rw [bk_23, if_pos rfl]; split
    · rename_i hx; rw [hx]; generalize fI M 23 _ = v; grind
    · exact z _
  rw [if_neg h23]
  by_cases h26 : i = 26
  · subst h26; rw [bk_26, if_pos rfl]; split
    · rename_i hx; rw [hx]; generalize fI M 26 _ = v; grind
    · exact z _
  rw [if_neg h26]
  by_cases h214 : i = 214
  · subst h214; rw [bk_214, if_pos rfl]; split
    · rename_i hx; rw [hx]; generalize fI M 214 _ = v; grind
    · exact z _
  rw [if_neg h214]
  by_cases h101 : i = 101
  · subst h101; rw [bk_101, if_pos rfl]; split
    · rename_i hx; rw [hx]; generalize fI M 101 _ = v; grind
    · exact z _
  rw [if_neg h101]
  by_cases h104 : i = 104
  · subst h104; rw [bk_104, if_pos rfl]; split
    · rename_i hx; rw [hx]; generalize fI M 104 _ = v; grind
    · exact z _
  rw [if_neg h104]
  by_cases h125 : i = 125
  · subst h125; rw [bk_125, if_pos rfl]; split
    · rename_i hx; rw [hx]
    · exact z _
  rw [if_neg h125]
  by_cases h127 : i = 127
  · subst h127; rw [bk_127, if_pos rfl]; split
    · rename_i hx; rw [hx]
    · exact z _
  rw [if_neg h127]
  by_cases h216 : i = 216
  · subst h216; rw [bk_216, if_pos rfl]; split
    · rename_i hx; rw [hx]; generalize fI M 216 _ = v; grind
    · exact z _
  rw [if_neg h216]
  by_cases h217 : i = 217
  · subst h217; rw [bk_217, if_pos rfl]; split
    · rename_i hx; rw [hx]; generalize fI M 217 _ = v; grind
    · exact z _
  rw [if_neg h217]
  by_cases h146 : i = 146
  · subst h146; rw [bk_146, if_pos rfl]; split
    · rfl
    · exact z _
  rw [if_neg h146, fI_eBook_o i x ⟨h23, h26, h214, h101, h104, h125, h127, h216, h217⟩ h146]
  exact z _
/-- buckets never below what an entry gave -/
def bOk (m t g : Nat) (M0 : kx_M) : List kx_E1 → Prop
  | [] => True
  | e :: l => eK e ≤ fI M0 26 (eB e) + dL m t g (e :: l) 26 (eB e) ∧ 1 ≤ iv (eT e) ∧ bOk m t g M0 l
def lf : List kx_E1 → Int
  | [] => 0
  | e :: l => iv (eT e) + lf l
/-- an entry's sale -/
def pE (m t : Nat) (M0 N : kx_M) (e : kx_E1) : Prop := kd N (eS e) = 9 ∧ fR N 160 (eS e) = some t ∧ fR N 161 (eS e) = some (eB e) ∧ fR N 162 (eS e) = eO e ∧ fI N 163 (eS e) = eT e ∧ fI N 164 (eS e) = eP e ∧ fI N 165 (eS e) = fI M0 210 m ∧ fI N 166 (eS e) = eK e ∧ kd M0 (eB e) = 2 ∧ ∀ o, eO e = some o → kd M0 o = 8
/-- N is M0 with the entries booked -/
def Bs (m t g tl sl : Nat) (M0 : kx_M) (Es : List kx_E1) (N : kx_M) : Prop :=
  (∀ x, kd M0 x ≠ 0 → kd N x = kd M0 x ∧ (∀ i, ¬ rn i → i ≠ 129 → fI N i x = fI M0 i x + dL m t g Es i x) ∧ (x ≠ t → fI N 129 x = fI M0 129 x) ∧ (∀ i, fR N i x = fR M0 i x) ∧ ∀ j, aI N x j = aI M0 x j) ∧
  (∀ x, kd M0 x = 1 → x ≠ tl → x ≠ sl → mL N x = mL M0 x) ∧ (∃ Qs, mL N tl = mL M0 tl ++ Qs ∧ Qs.length = Es.length) ∧ (∃ pre, mL N sl = pre ++ (Es.map eS).reverse ∧ pre.length + Es.length ≤ 20 ∧ ∀ s ∈ pre, s ∈ mL M0 sl) ∧
  (∀ e ∈ Es, pE m t M0 N e) ∧ bOk m t g M0 Es
section BS
variable {m t g tl sl : Nat} {M0 N : kx_M} {Es : List kx_E1}
theorem Bs_nil (hl : (mL M0 sl).length ≤ 20) : Bs m t g tl sl M0 [] M0 := ⟨fun x _ => ⟨rfl, fun i _ _ => by show _ = _ + (0 : Int32); rw [Int32.add_zero], fun _ => rfl, fun _ => rfl, fun _ => rfl⟩, fun _ _ _ _ => rfl, ⟨[], by rw [List.append_nil], rfl⟩, ⟨mL M0 sl, by simp, hl, fun s hs => hs⟩, fun e he => absurd he List.not_mem_nil, True.intro⟩
theorem Bs_off {N' : kx_M} (h : Bs m t g tl sl M0 Es N) (p : pOff N N') : Bs m t g tl sl M0 Es N' := by
  obtain ⟨h1, h2, h3, h4, h5, h6⟩ := h
  obtain ⟨⟨p1, p2, p3, p4, -⟩, p5⟩ := p
  refine ⟨fun x hx => ?_, fun x a b c => by rw [p2]; exact h2 x a b c, by rw [p2]; exact h3, by rw [p2]; exact h4, fun e he => ?_, h6⟩
  · obtain ⟨a1, a2, a3, a4, a5⟩ := h1 x hx
    exact ⟨by rw [p1]; exact a1, fun i i1 i2 => by rw [p5 i x i1]; exact a2 i i1 i2, fun w => by rw [p5 129 x (by unfold rn; omega)]; exact a3 w, fun i => by rw [p3]; exact a4 i, fun j => by rw [p4]; exact a5 j⟩
  · obtain ⟨a1, a2, a3, a4, a5, a6, a7, a8, a9⟩ := h5 e he
    exact ⟨by rw [p1]; exact a1, by rw [p3]; exact a2, by rw [p3]; exact a3, by rw [p3]; exact a4, by rw [p5 163 _ (by unfold rn; omega)]; exact a5, by rw [p5 164 _ (by unfold rn; omega)]; exact a6, by rw [p5 165 _ (by unfold rn; omega)]; exact a7, by rw [p5 166 _ (by unfold rn; omega)]; exact a8, a9⟩
/-- a lot's state set -/
theorem Bs_129 (h : Bs m t g tl sl M0 Es N) (v : Int32) : Bs m t g tl sl M0 Es (sI N 129 t v) := by
  obtain ⟨h1, h2, h3, h4, h5, h6⟩ := h
  refine ⟨fun x hx => ?_, h2, h3, h4, fun e he => ?_, h6⟩
  · obtain ⟨a1, a2, a3, a4, a5⟩ := h1 x hx
    exact ⟨a1, fun i i1 i2 => by rw [fI_sI_ne _ _ _ _ _ _ i2]; exact a2 i i1 i2, fun w => by rw [fI_sI_na _ _ _ _ _ _ w]; exact a3 w, a4, a5⟩
  · obtain ⟨a1, a2, a3, a4, a5, a6, a7, a8, a9⟩ := h5 e he
    exact ⟨a1, a2, a3, a4, by rw [fI_sI_ne _ _ _ _ _ _ (by decide)]; exact a5, by rw [fI_sI_ne _ _ _ _ _ _ (by decide)]; exact a6, by rw [fI_sI_ne _ _ _ _ _ _ (by decide)]; exact a7, by rw [fI_sI_ne _ _ _ _ _ _ (by decide)]; exact a8, a9⟩
theorem dL_26 (m t g : Nat) (e : kx_E1) (l : List kx_E1) : dL m t g (e :: l) 26 (eB e) = dL m t g l 26 (eB e) + eK e := by
  show dL m t g l 26 (eB e) + dE m t g e 26 (eB e) = _
  unfold dE
  rw [if_neg (by decide), if_pos rfl, if_pos rfl]
theorem dL_210 (m t g : Nat) (l : List kx_E1) (x : Nat) {i : Nat} (h : i ≠ 23 ∧ i ≠ 26 ∧ i ≠ 214 ∧ i ≠ 101 ∧ i ≠ 104 ∧ i ≠ 125 ∧ i ≠ 127 ∧ i ≠ 216 ∧ i ≠ 217 ∧ i ≠ 146) : dL m t g l i x = 0 := by
  induction l with
  | nil => rfl
  | cons e l ih =>
    show dL m t g l i x + dE m t g e i x = 0
    rw [ih]
    unfold dE
    obtain ⟨a1, a2, a3, a4, a5, a6, a7, a8, a9, a10⟩ := h
    rw [if_neg a1, if_neg a2, if_neg a3, if_neg a4, if_neg a5, if_neg a6, if_neg a7, if_neg a8, if_neg a9, if_neg a10]
    decide
theorem Bs_sell (h : Bs m t g tl sl M0 Es N) {b a q : Nat} {oo : Option Nat} {st pr : Int32} (hm : kd M0 m = 11) (ht : kd M0 t = 7) (hb : kd M0 b = 2) (hg : kd M0 g = 6) (ho : ∀ o, oo = some o → kd M0 o = 8) (ha : kd N a = 0) (hq : kd N q = 0) (haq : a ≠ q) (htl : kd M0 tl = 1) (hsl : kd M0 sl = 1) (hne : tl ≠ sl) (h9 : Es.length < 20) (h1 : 1 ≤ iv st) (h26 : 0 ≤ iv (fI N 26 b)) (h26' : iv (fI N 26 b) ≤ 10000) (hk : 0 ≤ iv (vMin (vBuckets st) (fI N 127 t))) (hk' : iv (vMin (vBuckets st) (fI N 127 t)) ≤ 10000) : Bs m t g tl sl M0 ((a, b, oo, st, pr, vMin (vBuckets st) (fI N 127 t)) :: Es) (eSell N m t b g oo st pr tl sl a q) := by
  obtain ⟨k1, k2, ⟨Qs, k3, k3'⟩, ⟨pre, k4, k4l, k4m⟩, k5, k6⟩ := h
  have live : ∀ x, kd M0 x ≠ 0 → kd N x ≠ 0 := fun x hx => by rw [(k1 x hx).1]; exact hx
  have nm : kd N m = 11 := by rw [(k1 m (by omega)).1, hm]
  have nt : kd N t = 7 := by rw [(k1 t (by omega)).1, ht]
  have nb : kd N b = 2 := by rw [(k1 b (by omega)).1, hb]
  have ng : kd N g = 6 := by rw [(k1 g (by omega)).1, hg]
  have ntl : kd N tl = 1 := by rw [(k1 tl (by omega)).1, htl]
  have nsl : kd N sl = 1 := by rw [(k1 sl (by omega)).1, hsl]
  have no : ∀ o, oo = some o → kd N o = 8 := fun o hoo => by rw [(k1 o (by rw [ho o hoo]; decide)).1, ho o hoo]
  have p := sell_ag (M := N) (m := m) (t := t) (b := b) (g := g) (oo := oo) (st := st) (pr := pr) (tl := tl) (sl := sl) (a := a) (q := q) ha hq nm nt nb ng no
  have ob := fun x i (hx : kd N x ≠ 0) hi => sell_old (M := N) (m := m) (t := t) (b := b) (g := g) (oo := oo) (st := st) (pr := pr) (tl := tl) (sl := sl) (a := a) (q := q) ha hq nm nt nb ng no hx i hi
  have bk := fun i x => bk_all N m t g (a, b, oo, st, pr, vMin (vBuckets st) (fI N 127 t)) i x
  refine ⟨fun x hx => ?_, fun x x1 x2 x3 => ?_, ⟨Qs ++ [q], ?_, ?_⟩, ?_, fun e he => ?_, ?_⟩
  · obtain ⟨a1, a2, a3, a4, a5⟩ := k1 x hx
    obtain ⟨p1, p2, p3⟩ := p x (live x hx)
    refine ⟨p1.trans a1, fun i i1 i2 => ?_, fun w => ?_, fun i => (p3 i).trans (a4 i), fun j => (sell_aI ha hq (live x hx)).trans (a5 j)⟩
    · rw [ob x i (live x hx) i2]
      refine (bk i x).trans ?_
      show _ = fI M0 i x + (dL m t g Es i x + dE m t g _ i x)
      rw [a2 i i1 i2, Int32.add_assoc]
    · rw [sell_129 ha hq nt (live x hx), if_neg (fun z => w z.1)]
      exact a3 w
  · have nx : kd N x = 1 := (k1 x (by omega)).1.trans x1
    rw [mL_eSell_o (kx_ne nx ha (by decide)) (kx_ne nx hq (by decide)) x2 x3]
    exact k2 x x1 x2 x3
  · rw [sell_tl ha hq ntl hne, k3, List.append_assoc]
  · rw [List.length_append, k3']; rfl
  · rw [sell_sl ha hq nsl hne, k4]
    have hlen : (Es.map eS).reverse.length = Es.length := by rw [List.length_reverse, List.length_map]
    by_cases h20 : (pre ++ (Es.map eS).reverse).length < 20
    · rw [if_pos h20]
      rw [List.length_append, hlen] at h20
      refine ⟨pre, ?_, by rw [List.length_cons]; omega, k4m⟩
      rw [List.append_assoc, List.map_cons, List.reverse_cons]
      rfl
    · rw [if_neg h20]
      rw [List.length_append, hlen] at h20
      cases pre with
      | nil => exact absurd h9 (by simp at h20; omega)
      | cons y pre =>
        rw [List.length_cons] at k4l
        refine ⟨pre, ?_, by rw [List.length_cons]; omega, fun s hs => k4m s (List.mem_cons_of_mem _ hs)⟩
        rw [List.map_cons, List.reverse_cons, ← List.append_assoc]
        rfl
  · rcases List.mem_cons.mp he with rfl | he
    · obtain ⟨c1, c2, c3, c4, c5, c6, c7, c8⟩ := sell_a (M := N) (m := m) (t := t) (b := b) (g := g) (oo := oo) (st := st) (pr := pr) (tl := tl) (sl := sl) ha hq haq
      have e210 : fI N 210 m = fI M0 210 m := by
        rw [(k1 m (by omega)).2.1 210 (by unfold rn; omega) (by decide), dL_210 _ _ _ _ _ (by decide), Int32.add_zero]
      exact ⟨c1, c2, c3, c4, c5, c6, by rw [← e210]; exact c7, c8, hb, ho⟩
    · obtain ⟨c1, c2, c3, c4, c5, c6, c7, c8, c9⟩ := k5 e he
      obtain ⟨p1, p2, p3⟩ := p (eS e) (by omega)
      have nf : ∀ i, i ∈ [163, 164, 165, 166] → ¬ sF i := fun i hi => by
        simp only [List.mem_cons, List.not_mem_nil, or_false] at hi
        unfold sF; omega
      exact ⟨by rw [p1, c1], by rw [p3, c2], by rw [p3, c3], by rw [p3, c4], by rw [p2 _ (nf _ (by decide)), c5], by rw [p2 _ (nf _ (by decide)), c6], by rw [p2 _ (nf _ (by decide)), c7], by rw [p2 _ (nf _ (by decide)), c8], c9⟩
  · refine ⟨?_, h1, k6⟩
    have e26 : fI N 26 b = fI M0 26 b + dL m t g Es 26 b := (k1 b (by omega)).2.1 26 (by unfold rn; omega) (by decide)
    have hd := dL_26 m t g (a, b, oo, st, pr, vMin (vBuckets st) (fI N 127 t)) Es
    rw [hd]
    show vMin (vBuckets st) (fI N 127 t) ≤ fI M0 26 b + (dL m t g Es 26 b + vMin (vBuckets st) (fI N 127 t))
    rw [← Int32.add_assoc, ← e26, iv_le, iv_add (by omega) (by omega)]
    omega
/-- the latest entry undone -/
theorem Bs_undo {e : kx_E1} (h : Bs m t g tl sl M0 (e :: Es) N) (hm : kd M0 m = 11) (ht : kd M0 t = 7) (hg : kd M0 g = 6) (htl : kd M0 tl = 1) (hsl : kd M0 sl = 1) (hne : tl ≠ sl) : Bs m t g tl sl M0 Es (eUndo N m t (eB e) g (eO e) (eT e) (eP e) (eK e) tl sl) ∧ fI (eUndo N m t (eB e) g (eO e) (eT e) (eP e) (eK e) tl sl) 129 t = (if fI N 129 t = 2 then 0 else fI N 129 t) ∧ (mL N sl)[(mL N sl).length - 1]? = some (eS e) ∧ eK e ≤ fI N 26 (eB e) ∧ pE m t M0 N e ∧ 1 ≤ iv (eT e) := by
  obtain ⟨k1, k2, ⟨Qs, k3, k3'⟩, ⟨pre, k4, k4l, k4m⟩, k5, k6, k7, k8⟩ := h
  rw [List.length_cons] at k4l
  have live : ∀ x, kd M0 x ≠ 0 → kd N x ≠ 0 := fun x hx => by rw [(k1 x hx).1]; exact hx
  have pe := k5 e List.mem_cons_self
  have hb := pe.2.2.2.2.2.2.2.2.1
  rw [List.map_cons, List.reverse_cons, ← List.append_assoc] at k4
  have hlen : (mL N sl).length - 1 = (pre ++ (Es.map eS).reverse).length := by rw [k4, List.length_append (bs := [eS e])]; exact Nat.add_sub_cancel _ _
  have hlast : (mL N sl)[(mL N sl).length - 1]? = some (eS e) := by
    rw [hlen, k4, List.getElem?_append_right (Nat.le_refl _), Nat.sub_self]
    rfl
  have herase : (mL N sl).eraseIdx ((mL N sl).length - 1) = pre ++ (Es.map eS).reverse := by
    rw [hlen, k4, List.eraseIdx_append_of_length_le (Nat.le_refl _), Nat.sub_self]
    show _ ++ ([] : List Nat) = _
    rw [List.append_nil]
  have e26 : fI N 26 (eB e) = fI M0 26 (eB e) + dL m t g (e :: Es) 26 (eB e) := (k1 _ (by omega)).2.1 26 (by unfold rn; omega) (by decide)
  generalize hU : eUndo N m t (eB e) g (eO e) (eT e) (eP e) (eK e) tl sl = U
  have hUd : U = (let M1 := eBook (sL N sl (pre ++ (Es.map eS).reverse)) m t (eB e) g (eO e) (-1 * eT e) (-1 * eK e) (-1 * eP e * eT e) (-1 * vShare (eP e * eT e))
      let M2 := if fI N 129 t = 2 then sI M1 129 t 0 else M1
      if (mL N tl).length = 0 then M2 else sL M2 tl ((mL N tl).eraseIdx ((mL N tl).length - 1))) := by
    rw [← hU]
    unfold eUndo eTakeBack
    rw [herase, mL_sL_ne _ _ _ _ hne]
    rfl
  have bk := fun i x => bk_un (sL N sl (pre ++ (Es.map eS).reverse)) m t g e i x
  generalize hM1 : eBook (sL N sl (pre ++ (Es.map eS).reverse)) m t (eB e) g (eO e) (-1 * eT e) (-1 * eK e) (-1 * eP e * eT e) (-1 * vShare (eP e * eT e)) = M1 at hUd bk
  have m1 : kd M1 = kd N := by rw [← hM1, kd_eBook, kd_sL]
  have m2 : fR M1 = fR N := by rw [← hM1, fR_eBook, fR_sL]
  have m3 : aI M1 = aI N := by rw [← hM1, aI_eBook, aI_sL]
  have m4 : mL M1 = mL (sL N sl (pre ++ (Es.map eS).reverse)) := by rw [← hM1, mL_eBook]
  have hQ : (mL N tl).length ≠ 0 := by rw [k3, List.length_append, k3', List.length_cons]; omega
  have hU2 : U = sL (if fI N 129 t = 2 then sI M1 129 t 0 else M1) tl ((mL N tl).eraseIdx ((mL N tl).length - 1)) := by
    rw [hUd]
    exact if_neg hQ
  generalize hM2 : (if fI N 129 t = 2 then sI M1 129 t 0 else M1) = M2 at hU2
  have n1 : kd M2 = kd N := by
    rw [← hM2]
    split
    · rw [kd_sI, m1]
    · exact m1
  have n2 : fR M2 = fR N := by
    rw [← hM2]
    split
    · rw [fR_sI, m2]
    · exact m2
  have n3 : aI M2 = aI N := by
    rw [← hM2]
    split
    · rw [aI_sI, m3]
    · exact m3
  have n4 : mL M2 = mL (sL N sl (pre ++ (Es.map eS).reverse)) := by
    rw [← hM2]
    split
    · rw [mL_sI, m4]
    · exact m4
  have n5 : ∀ i x, i ≠ 129 → fI M2 i x = fI N i x - dE m t g e i x := fun i x hi => by
    rw [← hM2]
    split
    · rw [fI_sI_ne _ _ _ _ _ _ hi, bk, fI_sL]
    · rw [bk, fI_sL]
  have n6' : ∀ x, fI M1 129 x = fI N 129 x := fun x => by rw [← hM1, fI_eBook_o 129 x (by decide) (by decide), fI_sL]
  have n6 : ∀ x, fI M2 129 x = if x = t ∧ fI N 129 t = 2 then 0 else fI N 129 x := fun x => by
    rw [← hM2]
    by_cases hz : fI N 129 t = 2
    · rw [if_pos hz, fI_set, n6']
      by_cases hx : x = t
      · rw [if_pos ⟨rfl, hx⟩, if_pos ⟨hx, hz⟩]
      · rw [if_neg (fun w => hx w.2), if_neg (fun w => hx w.1)]
    · rw [if_neg hz, n6', if_neg (fun w => hz w.2)]
  have hcan : ∀ u v : Int32, u + v - v = u := fun u v => by grind
  refine ⟨⟨fun x hx => ?_, fun x x1 x2 x3 => ?_, ?_, ⟨pre, ?_, by omega, k4m⟩, fun e' he => ?_, k8⟩, ?_, hlast, by rw [e26]; exact k6, pe, k7⟩
  · obtain ⟨a1, a2, a3, a4, a5⟩ := k1 x hx
    refine ⟨by rw [hU2, kd_sL, n1, a1], fun i i1 i2 => ?_, fun w => ?_, fun i => by rw [hU2, fR_sL, n2, a4], fun j => by rw [hU2, aI_sL, n3, a5]⟩
    · rw [hU2, fI_sL, n5 i x i2, a2 i i1 i2]
      show fI M0 i x + (dL m t g Es i x + dE m t g e i x) - dE m t g e i x = _
      rw [← Int32.add_assoc, hcan]
    · rw [hU2, fI_sL, n6, if_neg (fun z => w z.1)]
      exact a3 w
  · rw [hU2, mL_sL_ne _ _ _ _ x2, n4, mL_sL_ne _ _ _ _ x3]
    exact k2 x x1 x2 x3
  · rcases List.eq_nil_or_concat Qs with hz | ⟨Qs', z, hz⟩
    · rw [hz] at k3'; exact absurd k3' (by simp)
    · rw [List.concat_eq_append] at hz
      refine ⟨Qs', ?_, ?_⟩
      · rw [hU2, mL_sL_eq, k3, hz, ← List.append_assoc]
        have hl2 : ((mL M0 tl ++ Qs') ++ [z]).length - 1 = (mL M0 tl ++ Qs').length := by rw [List.length_append (bs := [z])]; exact Nat.add_sub_cancel _ _
        rw [hl2, List.eraseIdx_append_of_length_le (Nat.le_refl _), Nat.sub_self]
        show _ ++ ([] : List Nat) = _
        rw [List.append_nil]
      · rw [hz, List.length_append, List.length_cons] at k3'
        exact Nat.add_right_cancel k3'
  · rw [hU2, mL_sL_ne _ _ _ _ (Ne.symm hne), n4, mL_sL_eq]
  · obtain ⟨c1, c2, c3, c4, c5, c6, c7, c8, c9⟩ := k5 e' (List.mem_cons_of_mem _ he)
    have nz : ∀ i, i ∈ [163, 164, 165, 166] → ∀ x, fI U i x = fI N i x := fun i hi x => by
      simp only [List.mem_cons, List.not_mem_nil, or_false] at hi
      rw [hU2, fI_sL, n5 i x (by omega)]
      unfold dE
      rw [if_neg (by omega), if_neg (by omega), if_neg (by omega), if_neg (by omega), if_neg (by omega), if_neg (by omega), if_neg (by omega), if_neg (by omega), if_neg (by omega), if_neg (by omega)]
      grind
    exact ⟨by rw [hU2, kd_sL, n1, c1], by rw [hU2, fR_sL, n2, c2], by rw [hU2, fR_sL, n2, c3], by rw [hU2, fR_sL, n2, c4], by rw [nz _ (by decide), c5], by rw [nz _ (by decide), c6], by rw [nz _ (by decide), c7], by rw [nz _ (by decide), c8], c9⟩
  · rw [hU2, fI_sL, n6]
    by_cases hz : fI N 129 t = 2
    · rw [if_pos ⟨rfl, hz⟩, if_pos hz]
    · rw [if_neg (fun w => hz w.2), if_neg hz]
end BS
