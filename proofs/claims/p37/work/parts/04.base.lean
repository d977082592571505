/-! THE WALK IN SHORT (p37): a memory of plain functions, instructions as predicate transformers over it, and their soundness over the kit's rows. -/
/-- launch; where fields lie; the classes of int[] and Object[]; (the empty array's address, Object[]'s class object, the first address that may be written, ArrayList's statics); its cell; the empty array's cell; the script: address, length, ints, cell -/
abbrev kx_E : Type := Launch × va_G × (Nat → ClassId) × (Nat × Nat × Nat × Nat) × (Cell × Cell) × (Nat × Nat × (Nat → Int32) × Cell)
abbrev kx_l (E : kx_E) : Launch := E.1
abbrev kx_D (E : kx_E) : va_G := E.2.1
abbrev kx_cA (E : kx_E) : Nat → ClassId := E.2.2.1
abbrev kx_e0 (E : kx_E) : Nat := E.2.2.2.1.1
abbrev kx_mi (E : kx_E) : Nat := E.2.2.2.1.2.1
abbrev kx_ba (E : kx_E) : Nat := E.2.2.2.1.2.2.1
abbrev kx_sa (E : kx_E) : Nat := E.2.2.2.1.2.2.2
abbrev kx_sc (E : kx_E) : Cell := E.2.2.2.2.1.1
abbrev kx_ec (E : kx_E) : Cell := E.2.2.2.2.1.2
abbrev kx_b (E : kx_E) : Nat := E.2.2.2.2.2.1
abbrev kx_L (E : kx_E) : Nat := E.2.2.2.2.2.2.1
abbrev kx_xs (E : kx_E) : Nat → Int32 := E.2.2.2.2.2.2.2.1
abbrev kx_bc (E : kx_E) : Cell := E.2.2.2.2.2.2.2.2
/-- kind by address; length; int fields; reference fields; ints of arrays; references of arrays (at the upper level: of lists) -/
abbrev kx_M : Type := (Nat → Nat) × (Nat → Nat) × (Nat → Nat → Int32) × (Nat → Nat → Option Nat) × (Nat → Nat → Int32) × (Nat → List Nat) × (Nat → Nat → Option Nat)
def kd (M : kx_M) : Nat → Nat := M.1
def ln (M : kx_M) : Nat → Nat := M.2.1
def fI (M : kx_M) : Nat → Nat → Int32 := M.2.2.1
def fR (M : kx_M) : Nat → Nat → Option Nat := M.2.2.2.1
def aI (M : kx_M) : Nat → Nat → Int32 := M.2.2.2.2.1
def mL (M : kx_M) : Nat → List Nat := M.2.2.2.2.2.1
def aR (M : kx_M) : Nat → Nat → Option Nat := M.2.2.2.2.2.2
def u1 {α : Type} (f : Nat → α) (a : Nat) (v : α) : Nat → α := fun b => if b = a then v else f b
def u2 {α : Type} (f : Nat → Nat → α) (i a : Nat) (v : α) : Nat → Nat → α := fun j b => if j = i ∧ b = a then v else f j b
def sKd (M : kx_M) (a k : Nat) : kx_M := (u1 (kd M) a k, ln M, fI M, fR M, aI M, mL M, aR M)
def sLn (M : kx_M) (a n : Nat) : kx_M := (kd M, u1 (ln M) a n, fI M, fR M, aI M, mL M, aR M)
def sI (M : kx_M) (i a : Nat) (v : Int32) : kx_M := (kd M, ln M, u2 (fI M) i a v, fR M, aI M, mL M, aR M)
def sR (M : kx_M) (i a : Nat) (v : Option Nat) : kx_M := (kd M, ln M, fI M, u2 (fR M) i a v, aI M, mL M, aR M)
def sA (M : kx_M) (a i : Nat) (v : Int32) : kx_M := (kd M, ln M, fI M, fR M, u2 (aI M) a i v, mL M, aR M)
def sL (M : kx_M) (a : Nat) (v : List Nat) : kx_M := (kd M, ln M, fI M, fR M, aI M, u1 (mL M) a v, aR M)
def sQ (M : kx_M) (a i : Nat) (v : Option Nat) : kx_M := (kd M, ln M, fI M, fR M, aI M, mL M, u2 (aR M) a i v)
/-- which fields are references: class number, field number -/
def kx_rf (ci k : Nat) : Bool := match ci with
  | 0 => Nat.beq k 1
  | 1 => Nat.beq k 2
  | 2 => Nat.beq k 0
  | 4 => Nat.beq k 0
  | 5 => Nat.beq k 0
  | 6 => Nat.beq k 1
  | 7 => Nat.beq k 0
  | 8 => Nat.ble k 2
  | 9 => Nat.beq k 0
  | 10 => Nat.ble k 9
  | _ => false
def kx_fv (M : kx_M) (ci k a : Nat) : Value := cond (kx_rf ci k) (va_rf (fR M (20 * ci + k) a)) (.int (fI M (20 * ci + k) a))
/-- the calls of nest mates: class, place, method, host -/
def kx_nest : List (String × Nat × MethodName × String) := [(RX9, 48, yX2_init, RX9), (RX9, 76, yX4_init, RX9), (RX2, 138, yX9_bucketsFor, RX9), (RX3, 33, yX9_sumAsked, RX9), (RX5, 51, yX9_freshLife, RX9)]
/-- what is known of the machine in each method -/
def kx_kn (E : kx_E) (U : State) : Prop :=
  va_K (kx_D E) vwCl [(kx_cA E 0, .int), (kx_cA E 1, .object "java/lang/Object")] U ∧ va_Mi "[Ljava/lang/Object;" (kx_mi E) U ∧ va_Dc U ∧ va_AO "java/lang/Object" U ∧
  (∃ (cf : ClassId) (kf : Class) (fi : Nat) (f : Field), U.fieldFound? "java/util/ArrayList" "DEFAULTCAPACITY_EMPTY_ELEMENTDATA" "[Ljava/lang/Object;" = some (cf, kf, fi, f) ∧ f.isStatic = true ∧ kf.init = .initialized ∧ kf.statics = some (kx_sa E) ∧ (kx_sc E).slots[f.slot]? = some (.ref (kx_e0 E))) ∧ (kx_sc E).vm.isStatics = true ∧
  U.isArrayOf (kx_ec E) (.object "java/lang/Object") ∧ (kx_ec E).slots.size = 0 ∧ U.isArrayOf (kx_bc E) .int ∧ (kx_bc E).vm ≠ .unknown ∧ (kx_bc E).slots.size = kx_L E ∧ (∀ j : Nat, j < kx_L E → (kx_bc E).slots[j]? = some (.int (kx_xs E j))) ∧
  (∀ (ci : Nat) (r : vw_C) (comp : ClassId), vwCl[ci]? = some r → U.vm.findClass "java/lang/Object" = some comp → U.vm.assignable ((kx_D E).1 ci) comp = true) ∧
  (∀ q ∈ kx_nest, va_Nw (.methodLinkNest q.1 q.2.1 q.2.2.1 q.2.2.2) U)
theorem kx_kn.to {E : kx_E} {u U : State} (hvm : u.vm.Alike U.vm) (hN : ∀ q ∈ kx_nest, va_Nw (.methodLinkNest q.1 q.2.1 q.2.2.1 q.2.2.2) u → va_Nw (.methodLinkNest q.1 q.2.1 q.2.2.1 q.2.2.2) U) (h : kx_kn E u) : kx_kn E U := by
  obtain ⟨h1, h2, h3, h4, ⟨cf, kf, fi, f, g1, g2, g3, g4, g5⟩, h6, h7, h8, h9, h10, h11, h12, h13, h14⟩ := h
  obtain ⟨k', hi', he⟩ := State.fieldFound?_setVm hvm g1
  exact ⟨va_K.moved hvm h1, h2.moved hvm, h3.moved hvm, h4.moved hvm, ⟨cf, k', fi, f, hi', g2, by rw [he]; exact g3, by rw [he]; exact g4, g5⟩, h6, State.isArrayOf_alike hvm h7, h8, State.isArrayOf_alike hvm h9, h10, h11, h12, fun ci r comp hr hf => by rw [hvm.assignable]; exact h13 ci r comp hr (by rw [← hvm.findClass]; exact hf), fun q hq => hN q hq (h14 q hq)⟩
theorem kx_kn.warm {E : kx_E} {u U : State} (hW : u.WarmedH U.vm) (h : kx_kn E u) : kx_kn E U := h.to hW.alike (fun _ _ hq => va_Nw.warmM hW hq)
theorem kx_kn.call {E : kx_E} {a : Array Value} {U : State} {g : JFrame} {mk : MethodId} (h : kx_kn E U) : kx_kn E (U.calling g mk a) := h.to (u := U) (U := U.calling g mk a) (Vm.Alike.refl U.vm) (fun _ _ hq => va_Nw.same rfl rfl hq)
/-- the heap holds the memory (the lower level) -/
def kx_w1 (E : kx_E) (M : kx_M) (H : Heap) : Prop :=
  (∀ (a ci : Nat) (r : vw_C), vwCl[ci]? = some r → kd M a = ci + 1 → t_OB a ((kx_D E).1 ci) r.2.2 ((kx_D E).2 ci) H (fun k => kx_fv M ci k a)) ∧
  (∀ a : Nat, kd M a = 20 → H[a]? = some (arrV (kx_cA E 0) (ln M a) (fun j => .int (aI M a j)))) ∧
  (∀ a : Nat, kd M a = 21 → H[a]? = some (arrV (kx_cA E 1) (ln M a) (fun j => va_rf (aR M a j)))) ∧
  (∀ a : Nat, kd M a ≠ 0 → kx_ba E ≤ a ∧ a < H.size) ∧
  H[kx_sa E]? = some (kx_sc E) ∧ H[kx_e0 E]? = some (kx_ec E) ∧ H[kx_b E]? = some (kx_bc E) ∧ kx_sa E < kx_ba E ∧ kx_e0 E < kx_ba E ∧ kx_b E < kx_ba E ∧ kx_ba E ≤ H.size
abbrev kx_K : Type := Nat → Nat → Nat → List (Nat × Value) → List Value → kx_M → Prop
abbrev kx_Q : Type := Option Value → kx_M → Prop
abbrev kx_T : Type := kx_K → kx_Q → Nat → Nat → List (Nat × Value) → List Value → kx_M → Prop
/-- at this instruction the walk goes on as t says -/
def kx_ok (G : kx_K) (Qr : kx_Q) (pc : Nat) (t : kx_T) : Prop := ∀ K : kx_K, (∀ bc bs pc L S M, K bc bs pc L S M → G bc bs pc L S M) → ∀ bc bs L S M, t K Qr bc bs L S M → G bc bs pc L S M
/-- the machine at the frame pc, L, S over any heap that holds M comes to Q; bc cells of bs slots may still be made -/
def kx_G (E : kx_E) (Wd : kx_M → Heap → Prop) (p : Program) (e : Env) (R : Room) (s : State) (m : MethodId) (args : Array Value) (below : List Frame) (meth : Method) (c : Code) (nL : Nat) (Q : State → Prop) : kx_K := fun bc bs pc L S M =>
  ∀ (H : Heap) (locs : List Loc) (cells slots : Nat) (ls : Array Slot), Wd M H → (∀ q ∈ locs, kx_ba E ≤ q.base) → lv_has ls nL L → cells + bc ≤ R.cells → slots + bs ≤ R.slots → W p (kx_l E) e R s m args below meth c H locs cells slots Q (F0 m pc ls S)
/-- what a method's body knows -/
def kx_C (E : kx_E) (p : Program) (s : State) (m : MethodId) (args : Array Value) (meth : Method) (c : Code) (cc : ByteArray) (nL : Nat) (ws : List Cond) (own : String) : Prop :=
  p.tables.exec = Jvm.exec ∧ c.code = cc ∧ c.maxLocals = nL ∧ (∀ w ∈ ws, w.before args s = true) ∧ s.vm.findClass own = some m.cls ∧ kx_kn E s
/-- a local's value -/
def lk : List (Nat × Value) → Nat → Option Value
  | [], _ => none
  | (j, v) :: l, i => cond (Nat.beq j i) (some v) (lk l i)
theorem lk_mem {l : List (Nat × Value)} {i : Nat} {v : Value} (h : lk l i = some v) : (i, v) ∈ l := by
  induction l with
  | nil => cases h
  | cons q l ih =>
    obtain ⟨j, w⟩ := q
    unfold lk at h
    cases hb : Nat.beq j i with
    | true =>
      rw [hb] at h
      have hj : j = i := Nat.eq_of_beq_eq_true hb
      cases h
      rw [hj]
      exact List.mem_cons_self
    | false =>
      rw [hb] at h
      exact List.mem_cons_of_mem _ (ih h)
theorem lk_at {ls : Array Slot} {nL : Nat} {l : List (Nat × Value)} (h : lv_has ls nL l) {i : Nat} {v : Value} (hk : lk l i = some v) : ls[i]? = some (.val v) := h.2.2 (i, v) (lk_mem hk)
/-- a local set: what is known behind it -/
def st1 (l : List (Nat × Value)) (i : Nat) (v : Value) : List (Nat × Value) := (i, v) :: l.filter (fun q => !(q.1 == i) && !(q.1 + 1 == i && q.2.category == 2))
def st2 (l : List (Nat × Value)) (i : Nat) (v : Value) : List (Nat × Value) := (i, v) :: l.filter (fun q => !(q.1 == i) && (!(q.1 == i + 1) && !(q.1 + 1 == i && q.2.category == 2)))
/-- wide values -/
def kx_c2 (w : Value) : Bool := match w with
  | .long _ => true
  | .double _ => true
  | _ => false
def cl1 : List (Nat × Value) → Nat → List (Nat × Value)
  | [], _ => []
  | (j, w) :: l, i => cond (Nat.beq j i || (Nat.beq (j + 1) i && kx_c2 w)) (cl1 l i) ((j, w) :: cl1 l i)
def up1 : List (Nat × Value) → Nat → Value → List (Nat × Value)
  | [], i, v => [(i, v)]
  | (j, w) :: l, i, v => cond (Nat.beq j i) ((i, v) :: cl1 l i) (cond (Nat.beq (j + 1) i && kx_c2 w) (up1 l i v) ((j, w) :: up1 l i v))
def cl2 : List (Nat × Value) → Nat → List (Nat × Value)
  | [], _ => []
  | (j, w) :: l, i => cond (Nat.beq j i || (Nat.beq j (i + 1) || (Nat.beq (j + 1) i && kx_c2 w))) (cl2 l i) ((j, w) :: cl2 l i)
def up2 (l : List (Nat × Value)) (i : Nat) (v : Value) : List (Nat × Value) := (i, v) :: cl2 l i
def kx_isr (v : Value) : Prop := ∃ o : Option Nat, v = va_rf o
def t_push (n : Nat) (v : Value) : kx_T := fun K _ bc bs L S M => K bc bs n L (v :: S) M
def t_il (n i : Nat) : kx_T := fun K _ bc bs L S M => match lk L i with
  | some (.int x) => K bc bs n L (.int x :: S) M
  | _ => False
def t_ll (n i : Nat) : kx_T := fun K _ bc bs L S M => match lk L i with
  | some (.long x) => K bc bs n L (.long x :: S) M
  | _ => False
def t_al (n i : Nat) : kx_T := fun K _ bc bs L S M => match lk L i with
  | some v => kx_isr v ∧ K bc bs n L (v :: S) M
  | none => False
def t_is (n i : Nat) : kx_T := fun K _ bc bs L S M => match S with
  | .int x :: S => K bc bs n (up1 L i (.int x)) S M
  | _ => False
def t_ls (n i : Nat) : kx_T := fun K _ bc bs L S M => match S with
  | .long x :: S => K bc bs n (up2 L i (.long x)) S M
  | _ => False
def t_as (n i : Nat) : kx_T := fun K _ bc bs L S M => match S with
  | v :: S => kx_isr v ∧ K bc bs n (up1 L i v) S M
  | _ => False
def t_inc (n i : Nat) (k : Int32) : kx_T := fun K _ bc bs L S M => match lk L i with
  | some (.int x) => K bc bs n (up1 L i (.int (x + k))) S M
  | _ => False
def t_bin (n : Nat) (f : Int32 → Int32 → Int32) : kx_T := fun K _ bc bs L S M => match S with
  | .int y :: .int x :: S => K bc bs n L (.int (f x y) :: S) M
  | _ => False
def t_dv (n : Nat) (f : Int32 → Int32 → Int32) : kx_T := fun K _ bc bs L S M => match S with
  | .int y :: .int x :: S => y ≠ 0 ∧ K bc bs n L (.int (f x y) :: S) M
  | _ => False
def t_lbin (n : Nat) (f : Int64 → Int64 → Int64) : kx_T := fun K _ bc bs L S M => match S with
  | .long y :: .long x :: S => K bc bs n L (.long (f x y) :: S) M
  | _ => False
def t_lcmp (n : Nat) : kx_T := fun K _ bc bs L S M => match S with
  | .long y :: .long x :: S => K bc bs n L (.int (lg_cmp x y) :: S) M
  | _ => False
def t_itl (n : Nat) : kx_T := fun K _ bc bs L S M => match S with
  | .int x :: S => K bc bs n L (.long x.toInt64 :: S) M
  | _ => False
def t_dup (n : Nat) : kx_T := fun K _ bc bs L S M => match S with
  | v :: S => v.category = 1 ∧ K bc bs n L (v :: v :: S) M
  | _ => False
def t_pop (n : Nat) : kx_T := fun K _ bc bs L S M => match S with
  | v :: S => v.category = 1 ∧ K bc bs n L S M
  | _ => False
def t_dupx (n : Nat) : kx_T := fun K _ bc bs L S M => match S with
  | v :: w :: S => v.category = 1 ∧ w.category = 1 ∧ K bc bs n L (v :: w :: v :: S) M
  | _ => False
/-- the locals below m -/
def cutL (m : Nat) : List (Nat × Value) → List (Nat × Value)
  | [] => []
  | (j, v) :: l => cond (decide (j < m)) ((j, v) :: cutL m l) (cutL m l)
/-- back to a loop's head: what the body's own locals held is forgotten -/
def t_gk (n m : Nat) : kx_T := fun K _ bc bs L S M => K bc bs n (cutL m L) S M
def t_go (n : Nat) : kx_T := fun K _ bc bs L S M => K bc bs n L S M
def t_if (n t : Nat) (f : Int32 → Prop) : kx_T := fun K _ bc bs L S M => match S with
  | .int x :: S => (f x → K bc bs t L S M) ∧ (¬ f x → K bc bs n L S M)
  | _ => False
def t_ic (n t : Nat) (f : Int32 → Int32 → Prop) : kx_T := fun K _ bc bs L S M => match S with
  | .int y :: .int x :: S => (f x y → K bc bs t L S M) ∧ (¬ f x y → K bc bs n L S M)
  | _ => False
/-- null: to n; else: to t -/
def t_nul (n t : Nat) : kx_T := fun K _ bc bs L S M => match S with
  | v :: S => ∃ o : Option Nat, v = va_rf o ∧ (o = none → K bc bs n L S M) ∧ (o ≠ none → K bc bs t L S M)
  | _ => False
/-- the same: to n; else: to t -/
def t_acmp (n t : Nat) : kx_T := fun K _ bc bs L S M => match S with
  | w :: v :: S => ∃ o : Option Nat, v = va_rf o ∧ ∃ q : Option Nat, w = va_rf q ∧ (o = q → K bc bs n L S M) ∧ (o ≠ q → K bc bs t L S M)
  | _ => False
theorem kx_c2_eq (w : Value) : (w.category == 2) = kx_c2 w := by
  cases w <;> rfl
theorem cl1_sub {l : List (Nat × Value)} {i : Nat} : ∀ q ∈ cl1 l i, q ∈ l.filter (fun q => !(q.1 == i) && !(q.1 + 1 == i && q.2.category == 2)) := by
  induction l with
  | nil => intro q h; exact h
  | cons x l ih =>
    obtain ⟨j, w⟩ := x
    intro q h
    unfold cl1 at h
    rw [List.filter_cons]
    simp only [kx_c2_eq]
    simp only [kx_c2_eq] at ih
    have e1 : ∀ a b : Nat, (a == b) = Nat.beq a b := fun a b => by rw [Bool.eq_iff_iff]; simp [Nat.beq_eq]
    rw [e1, e1]
    cases h1 : Nat.beq j i with
    | true =>
      rw [h1] at h
      simp only [Bool.true_or, cond_true] at h
      simpa using ih q h
    | false =>
      rw [h1] at h
      cases h2 : (Nat.beq (j + 1) i && kx_c2 w) with
      | true =>
        rw [h2] at h
        simp only [Bool.false_or, cond_true] at h
        simpa using ih q h
      | false =>
        rw [h2] at h
        simp only [Bool.false_or, cond_false] at h
        simp only [Bool.not_false, Bool.and_self, if_true]
        rcases List.mem_cons.mp h with h | h
        · rw [h]; exact List.mem_cons_self
        · exact List.mem_cons_of_mem _ (ih q h)
theorem up1_sub {l : List (Nat × Value)} {i : Nat} {v : Value} : ∀ q ∈ up1 l i v, q ∈ (i, v) :: l.filter (fun q => !(q.1 == i) && !(q.1 + 1 == i && q.2.category == 2)) := by
  induction l with
  | nil => intro q h; exact h
  | cons x l ih =>
    obtain ⟨j, w⟩ := x
    intro q h
    unfold up1 at h
    rw [List.filter_cons]
    have e1 : ∀ a b : Nat, (a == b) = Nat.beq a b := fun a b => by rw [Bool.eq_iff_iff]; simp [Nat.beq_eq]
    simp only [kx_c2_eq] at ih ⊢
    cases h1 : Nat.beq j i with
    | true =>
      rw [h1] at h
      simp only [cond_true] at h
      simp only [e1 j i, e1 (j + 1) i, h1, Bool.not_true, Bool.false_and]
      rcases List.mem_cons.mp h with h | h
      · rw [h]; exact List.mem_cons_self
      · refine List.mem_cons_of_mem _ ?_
        have := cl1_sub q h
        simp only [kx_c2_eq] at this
        simpa using this
    | false =>
      rw [h1] at h
      simp only [cond_false] at h
      simp only [e1 j i, e1 (j + 1) i, h1, Bool.not_false, Bool.true_and]
      cases h2 : (Nat.beq (j + 1) i && kx_c2 w) with
      | true =>
        rw [h2] at h
        simp only [cond_true] at h
        simpa using ih q h
      | false =>
        rw [h2] at h
        simp only [cond_false] at h
        simp only [Bool.not_false, if_true]
        rcases List.mem_cons.mp h with h | h
        · rw [h]; exact List.mem_cons_of_mem _ List.mem_cons_self
        · rcases List.mem_cons.mp (ih q h) with h | h
          · rw [h]; exact List.mem_cons_self
          · exact List.mem_cons_of_mem _ (List.mem_cons_of_mem _ h)
theorem cl2_sub {l : List (Nat × Value)} {i : Nat} : ∀ q ∈ cl2 l i, q ∈ l.filter (fun q => !(q.1 == i) && (!(q.1 == i + 1) && !(q.1 + 1 == i && q.2.category == 2))) := by
  induction l with
  | nil => intro q h; exact h
  | cons x l ih =>
    obtain ⟨j, w⟩ := x
    intro q h
    unfold cl2 at h
    rw [List.filter_cons]
    simp only [kx_c2_eq]
    simp only [kx_c2_eq] at ih
    have e1 : ∀ a b : Nat, (a == b) = Nat.beq a b := fun a b => by rw [Bool.eq_iff_iff]; simp [Nat.beq_eq]
    rw [e1, e1, e1]
    cases h1 : Nat.beq j i with
    | true =>
      rw [h1] at h
      simp only [Bool.true_or, cond_true] at h
      simpa using ih q h
    | false =>
      cases h3 : Nat.beq j (i + 1) with
      | true =>
        rw [h1, h3] at h
        simp only [Bool.true_or, Bool.false_or, cond_true] at h
        simpa using ih q h
      | false =>
        rw [h1, h3] at h
        cases h2 : (Nat.beq (j + 1) i && kx_c2 w) with
        | true =>
          rw [h2] at h
          simp only [Bool.false_or, cond_true] at h
          simpa using ih q h
        | false =>
          rw [h2] at h
          simp only [Bool.false_or, cond_false] at h
          simp only [Bool.not_false, Bool.and_self, if_true]
          rcases List.mem_cons.mp h with h | h
          · rw [h]; exact List.mem_cons_self
          · exact List.mem_cons_of_mem _ (ih q h)
theorem cutL_sub {m : Nat} {l : List (Nat × Value)} : ∀ q ∈ cutL m l, q ∈ l := by
  induction l with
  | nil => intro q h; exact h
  | cons x l ih =>
    obtain ⟨j, v⟩ := x
    intro q h
    unfold cutL at h
    cases hb : decide (j < m) with
    | true =>
      rw [hb] at h
      rcases List.mem_cons.mp h with h | h
      · rw [h]; exact List.mem_cons_self
      · exact List.mem_cons_of_mem _ (ih q h)
    | false =>
      rw [hb] at h
      exact List.mem_cons_of_mem _ (ih q h)
theorem lv_up1 {ls : Array Slot} {nL i : Nat} {v : Value} {l : List (Nat × Value)} (h : lv_has ls nL ((i, v) :: l.filter (fun q => !(q.1 == i) && !(q.1 + 1 == i && q.2.category == 2)))) : lv_has ls nL (up1 l i v) := ⟨h.1, h.2.1, fun q hq => h.2.2 q (up1_sub q hq)⟩
theorem lv_up2 {ls : Array Slot} {nL i : Nat} {v : Value} {l : List (Nat × Value)} (h : lv_has ls nL ((i, v) :: l.filter (fun q => !(q.1 == i) && (!(q.1 == i + 1) && !(q.1 + 1 == i && q.2.category == 2))))) : lv_has ls nL (up2 l i v) := ⟨h.1, h.2.1, fun q hq => h.2.2 q (by
  rcases List.mem_cons.mp hq with e | e
  · rw [e]; exact List.mem_cons_self
  · exact List.mem_cons_of_mem _ (cl2_sub q e))⟩
theorem lv_getk {i : Nat} {v : Value} {l : List (Nat × Value)} (h : lk l i = some v) : ∃ k : Nat, l[k]? = some (i, v) := List.getElem?_of_mem (lk_mem h)
section KXS
variable {E : kx_E} {Wd : kx_M → Heap → Prop} {p : Program} {e : Env} {R : Room} {s : State} {m : MethodId} {args : Array Value} {below : List Frame} {meth : Method} {c : Code} {nL : Nat} {Q : State → Prop} {cc : ByteArray} {ws : List Cond} {own : String} {Qr : kx_Q} {pc : Nat}
theorem ok_iconst (C : kx_C E p s m args meth c cc nL ws own) {n : Int} {v : Int32} (hd : decode cc pc = .ok (.iconst n, 1)) (hv : Int32.ofInt n = v) : kx_ok (kx_G E Wd p e R s m args below meth c nL Q) Qr pc (t_push (pc + 1) (.int v)) := fun K hK bc bs L S M h H locs cells slots ls h1 h2 h3 h4 h5 => lv_iconst C.1 C.2.1 hd hv (hK _ _ _ _ _ _ h H locs cells slots ls h1 h2 h3 h4 h5)
theorem ok_bipush (C : kx_C E p s m args meth c cc nL ws own) {n : Int} {v : Int32} (hd : decode cc pc = .ok (.bipush n, 2)) (hv : (Int8.ofInt n).toInt32 = v) : kx_ok (kx_G E Wd p e R s m args below meth c nL Q) Qr pc (t_push (pc + 2) (.int v)) := fun K hK bc bs L S M h H locs cells slots ls h1 h2 h3 h4 h5 => lv_bipush C.1 C.2.1 hd hv (hK _ _ _ _ _ _ h H locs cells slots ls h1 h2 h3 h4 h5)
theorem ok_sipush (C : kx_C E p s m args meth c cc nL ws own) {n : Int} {v : Int32} (hd : decode cc pc = .ok (.sipush n, 3)) (hv : (Int16.ofInt n).toInt32 = v) : kx_ok (kx_G E Wd p e R s m args below meth c nL Q) Qr pc (t_push (pc + 3) (.int v)) := fun K hK bc bs L S M h H locs cells slots ls h1 h2 h3 h4 h5 => lv_sipush C.1 C.2.1 hd hv (hK _ _ _ _ _ _ h H locs cells slots ls h1 h2 h3 h4 h5)
theorem ok_ldc (C : kx_C E p s m args meth c cc nL ws own) {index : Nat} {v : Int32} (hd : decode cc pc = .ok (.ldc index, 2)) (hw : Cond.constant own index v ∈ ws) : kx_ok (kx_G E Wd p e R s m args below meth c nL Q) Qr pc (t_push (pc + 2) (.int v)) := fun K hK bc bs L S M h H locs cells slots ls h1 h2 h3 h4 h5 => lv_ldc C.1 C.2.1 C.2.2.2.2.1 (C.2.2.2.1 _ hw) hd (hK _ _ _ _ _ _ h H locs cells slots ls h1 h2 h3 h4 h5)
theorem ok_ldcw (C : kx_C E p s m args meth c cc nL ws own) {index : Nat} {v : Int32} (hd : decode cc pc = .ok (.ldc_w index, 3)) (hw : Cond.constant own index v ∈ ws) : kx_ok (kx_G E Wd p e R s m args below meth c nL Q) Qr pc (t_push (pc + 3) (.int v)) := fun K hK bc bs L S M h H locs cells slots ls h1 h2 h3 h4 h5 => lv_ldcw C.1 C.2.1 C.2.2.2.2.1 (C.2.2.2.1 _ hw) hd (hK _ _ _ _ _ _ h H locs cells slots ls h1 h2 h3 h4 h5)
theorem ok_ldc2 (C : kx_C E p s m args meth c cc nL ws own) {index : Nat} {v : Int64} (hd : decode cc pc = .ok (.ldc2_w index, 3)) (hw : Cond.constantLong own index v ∈ ws) : kx_ok (kx_G E Wd p e R s m args below meth c nL Q) Qr pc (t_push (pc + 3) (.long v)) := fun K hK bc bs L S M h H locs cells slots ls h1 h2 h3 h4 h5 => lv_ldc2 C.1 C.2.1 C.2.2.2.2.1 (C.2.2.2.1 _ hw) hd (hK _ _ _ _ _ _ h H locs cells slots ls h1 h2 h3 h4 h5)
theorem ok_null (C : kx_C E p s m args meth c cc nL ws own) (hd : decode cc pc = .ok (.aconst_null, 1)) : kx_ok (kx_G E Wd p e R s m args below meth c nL Q) Qr pc (t_push (pc + 1) .null) := fun K hK bc bs L S M h H locs cells slots ls h1 h2 h3 h4 h5 => lv_null C.1 C.2.1 hd (hK _ _ _ _ _ _ h H locs cells slots ls h1 h2 h3 h4 h5)
theorem ok_iload_n (C : kx_C E p s m args meth c cc nL ws own) {k : Fin 4} {i : Nat} (hd : decode cc pc = .ok (.iload_n k, 1)) (hi : (k : Nat) = i) : kx_ok (kx_G E Wd p e R s m args below meth c nL Q) Qr pc (t_il (pc + 1) i) := by
  intro K hK bc bs L S M h H locs cells slots ls h1 h2 h3 h4 h5
  unfold t_il at h
  split at h
  · rename_i x hx
    exact lv_iload_n C.1 C.2.1 hd hi (lk_at h3 hx) (hK _ _ _ _ _ _ h H locs cells slots ls h1 h2 h3 h4 h5)
  · exact h.elim
theorem ok_iload (C : kx_C E p s m args meth c cc nL ws own) {i : Nat} (hd : decode cc pc = .ok (.iload i, 2))  : kx_ok (kx_G E Wd p e R s m args below meth c nL Q) Qr pc (t_il (pc + 2) i) := by
  intro K hK bc bs L S M h H locs cells slots ls h1 h2 h3 h4 h5
  unfold t_il at h
  split at h
  · rename_i x hx
    exact lv_iload C.1 C.2.1 hd (lk_at h3 hx) (hK _ _ _ _ _ _ h H locs cells slots ls h1 h2 h3 h4 h5)
  · exact h.elim
theorem ok_lload_n (C : kx_C E p s m args meth c cc nL ws own) {k : Fin 4} {i : Nat} (hd : decode cc pc = .ok (.lload_n k, 1)) (hi : (k : Nat) = i) : kx_ok (kx_G E Wd p e R s m args below meth c nL Q) Qr pc (t_ll (pc + 1) i) := by
  intro K hK bc bs L S M h H locs cells slots ls h1 h2 h3 h4 h5
  unfold t_ll at h
  split at h
  · rename_i x hx
    exact lv_lload_n C.1 C.2.1 hd hi (lk_at h3 hx) (hK _ _ _ _ _ _ h H locs cells slots ls h1 h2 h3 h4 h5)
  · exact h.elim
theorem ok_lload (C : kx_C E p s m args meth c cc nL ws own) {i : Nat} (hd : decode cc pc = .ok (.lload i, 2))  : kx_ok (kx_G E Wd p e R s m args below meth c nL Q) Qr pc (t_ll (pc + 2) i) := by
  intro K hK bc bs L S M h H locs cells slots ls h1 h2 h3 h4 h5
  unfold t_ll at h
  split at h
  · rename_i x hx
    exact lv_lload C.1 C.2.1 hd (lk_at h3 hx) (hK _ _ _ _ _ _ h H locs cells slots ls h1 h2 h3 h4 h5)
  · exact h.elim
theorem ok_aload_n (C : kx_C E p s m args meth c cc nL ws own) {k : Fin 4} {i : Nat} (hd : decode cc pc = .ok (.aload_n k, 1)) (hi : (k : Nat) = i) : kx_ok (kx_G E Wd p e R s m args below meth c nL Q) Qr pc (t_al (pc + 1) i) := by
  intro K hK bc bs L S M h H locs cells slots ls h1 h2 h3 h4 h5
  unfold t_al at h
  split at h
  · rename_i v hx
    obtain ⟨⟨o, ho⟩, h⟩ := h
    subst ho
    cases o with
    | none => exact lv_aload_nN C.1 C.2.1 hd hi (lk_at h3 hx) (hK _ _ _ _ _ _ h H locs cells slots ls h1 h2 h3 h4 h5)
    | some x => exact lv_aload_n C.1 C.2.1 hd hi (lk_at h3 hx) (hK _ _ _ _ _ _ h H locs cells slots ls h1 h2 h3 h4 h5)
  · exact h.elim
theorem ok_aload (C : kx_C E p s m args meth c cc nL ws own) {i : Nat} (hd : decode cc pc = .ok (.aload i, 2))  : kx_ok (kx_G E Wd p e R s m args below meth c nL Q) Qr pc (t_al (pc + 2) i) := by
  intro K hK bc bs L S M h H locs cells slots ls h1 h2 h3 h4 h5
  unfold t_al at h
  split at h
  · rename_i v hx
    obtain ⟨⟨o, ho⟩, h⟩ := h
    subst ho
    cases o with
    | none => exact lv_aloadN C.1 C.2.1 hd (lk_at h3 hx) (hK _ _ _ _ _ _ h H locs cells slots ls h1 h2 h3 h4 h5)
    | some x => exact lv_aload C.1 C.2.1 hd (lk_at h3 hx) (hK _ _ _ _ _ _ h H locs cells slots ls h1 h2 h3 h4 h5)
  · exact h.elim
theorem ok_istore_n (C : kx_C E p s m args meth c cc nL ws own) {k : Fin 4} {i : Nat} (hd : decode cc pc = .ok (.istore_n k, 1)) (hi : (k : Nat) = i) (hn : i < nL) : kx_ok (kx_G E Wd p e R s m args below meth c nL Q) Qr pc (t_is (pc + 1) i) := by
  intro K hK bc bs L S M h H locs cells slots ls h1 h2 h3 h4 h5
  unfold t_is at h
  split at h
  · exact lv_istore_n C.1 C.2.1 hd hi h3 hn rfl (fun ls' hl => hK _ _ _ _ _ _ h H locs cells slots ls' h1 h2 (lv_up1 hl) h4 h5)
  · exact h.elim
theorem ok_istore (C : kx_C E p s m args meth c cc nL ws own) {i : Nat} (hd : decode cc pc = .ok (.istore i, 2))  (hn : i < nL) : kx_ok (kx_G E Wd p e R s m args below meth c nL Q) Qr pc (t_is (pc + 2) i) := by
  intro K hK bc bs L S M h H locs cells slots ls h1 h2 h3 h4 h5
  unfold t_is at h
  split at h
  · exact lv_istore C.1 C.2.1 hd h3 hn rfl (fun ls' hl => hK _ _ _ _ _ _ h H locs cells slots ls' h1 h2 (lv_up1 hl) h4 h5)
  · exact h.elim
theorem ok_lstore_n (C : kx_C E p s m args meth c cc nL ws own) {k : Fin 4} {i : Nat} (hd : decode cc pc = .ok (.lstore_n k, 1)) (hi : (k : Nat) = i) (hn : i + 1 < nL) : kx_ok (kx_G E Wd p e R s m args below meth c nL Q) Qr pc (t_ls (pc + 1) i) := by
  intro K hK bc bs L S M h H locs cells slots ls h1 h2 h3 h4 h5
  unfold t_ls at h
  split at h
  · exact lv_lstore_n C.1 C.2.1 hd hi h3 hn rfl (fun ls' hl => hK _ _ _ _ _ _ h H locs cells slots ls' h1 h2 (lv_up2 hl) h4 h5)
  · exact h.elim
theorem ok_lstore (C : kx_C E p s m args meth c cc nL ws own) {i : Nat} (hd : decode cc pc = .ok (.lstore i, 2))  (hn : i + 1 < nL) : kx_ok (kx_G E Wd p e R s m args below meth c nL Q) Qr pc (t_ls (pc + 2) i) := by
  intro K hK bc bs L S M h H locs cells slots ls h1 h2 h3 h4 h5
  unfold t_ls at h
  split at h
  · exact lv_lstore C.1 C.2.1 hd h3 hn rfl (fun ls' hl => hK _ _ _ _ _ _ h H locs cells slots ls' h1 h2 (lv_up2 hl) h4 h5)
  · exact h.elim
theorem ok_astore_n (C : kx_C E p s m args meth c cc nL ws own) {k : Fin 4} {i : Nat} (hd : decode cc pc = .ok (.astore_n k, 1)) (hi : (k : Nat) = i) (hn : i < nL) : kx_ok (kx_G E Wd p e R s m args below meth c nL Q) Qr pc (t_as (pc + 1) i) := by
  intro K hK bc bs L S M h H locs cells slots ls h1 h2 h3 h4 h5
  unfold t_as at h
  split at h
  · obtain ⟨⟨o, ho⟩, h⟩ := h
    subst ho
    cases o with
    | none => exact lv_astore_nN C.1 C.2.1 hd hi h3 hn rfl (fun ls' hl => hK _ _ _ _ _ _ h H locs cells slots ls' h1 h2 (lv_up1 hl) h4 h5)
    | some x => exact lv_astore_n C.1 C.2.1 hd hi h3 hn rfl (fun ls' hl => hK _ _ _ _ _ _ h H locs cells slots ls' h1 h2 (lv_up1 hl) h4 h5)
  · exact h.elim
theorem ok_astore (C : kx_C E p s m args meth c cc nL ws own) {i : Nat} (hd : decode cc pc = .ok (.astore i, 2))  (hn : i < nL) : kx_ok (kx_G E Wd p e R s m args below meth c nL Q) Qr pc (t_as (pc + 2) i) := by
  intro K hK bc bs L S M h H locs cells slots ls h1 h2 h3 h4 h5
  unfold t_as at h
  split at h
  · obtain ⟨⟨o, ho⟩, h⟩ := h
    subst ho
    cases o with
    | none => exact lv_astoreN C.1 C.2.1 hd h3 hn rfl (fun ls' hl => hK _ _ _ _ _ _ h H locs cells slots ls' h1 h2 (lv_up1 hl) h4 h5)
    | some x => exact lv_astore C.1 C.2.1 hd h3 hn rfl (fun ls' hl => hK _ _ _ _ _ _ h H locs cells slots ls' h1 h2 (lv_up1 hl) h4 h5)
  · exact h.elim
theorem ok_iinc (C : kx_C E p s m args meth c cc nL ws own) {i : Nat} {n : Int} {v : Int32} (hd : decode cc pc = .ok (.iinc i n, 3)) (hv : Int32.ofInt n = v) (hn : i < nL) : kx_ok (kx_G E Wd p e R s m args below meth c nL Q) Qr pc (t_inc (pc + 3) i v) := by
  intro K hK bc bs L S M h H locs cells slots ls h1 h2 h3 h4 h5
  unfold t_inc at h
  split at h
  · rename_i x hx
    obtain ⟨k, hk⟩ := lv_getk hx
    subst hv
    exact lv_iinc C.1 C.2.1 hd h3 hk rfl hn rfl (fun ls' hl => hK _ _ _ _ _ _ h H locs cells slots ls' h1 h2 (lv_up1 hl) h4 h5)
  · exact h.elim
theorem ok_iadd (C : kx_C E p s m args meth c cc nL ws own) (hd : decode cc pc = .ok (.iadd, 1)) : kx_ok (kx_G E Wd p e R s m args below meth c nL Q) Qr pc (t_bin (pc + 1) (fun x y => x + y)) := by
  intro K hK bc bs L S M h H locs cells slots ls h1 h2 h3 h4 h5
  unfold t_bin at h
  split at h
  · exact lv_iadd C.1 C.2.1 hd (hK _ _ _ _ _ _ h H locs cells slots ls h1 h2 h3 h4 h5)
  · exact h.elim
theorem ok_isub (C : kx_C E p s m args meth c cc nL ws own) (hd : decode cc pc = .ok (.isub, 1)) : kx_ok (kx_G E Wd p e R s m args below meth c nL Q) Qr pc (t_bin (pc + 1) (fun x y => x - y)) := by
  intro K hK bc bs L S M h H locs cells slots ls h1 h2 h3 h4 h5
  unfold t_bin at h
  split at h
  · exact lv_isub C.1 C.2.1 hd (hK _ _ _ _ _ _ h H locs cells slots ls h1 h2 h3 h4 h5)
  · exact h.elim
theorem ok_imul (C : kx_C E p s m args meth c cc nL ws own) (hd : decode cc pc = .ok (.imul, 1)) : kx_ok (kx_G E Wd p e R s m args below meth c nL Q) Qr pc (t_bin (pc + 1) (fun x y => x * y)) := by
  intro K hK bc bs L S M h H locs cells slots ls h1 h2 h3 h4 h5
  unfold t_bin at h
  split at h
  · exact lv_imul C.1 C.2.1 hd (hK _ _ _ _ _ _ h H locs cells slots ls h1 h2 h3 h4 h5)
  · exact h.elim
theorem ok_iand (C : kx_C E p s m args meth c cc nL ws own) (hd : decode cc pc = .ok (.iand, 1)) : kx_ok (kx_G E Wd p e R s m args below meth c nL Q) Qr pc (t_bin (pc + 1) (fun x y => x &&& y)) := by
  intro K hK bc bs L S M h H locs cells slots ls h1 h2 h3 h4 h5
  unfold t_bin at h
  split at h
  · exact lv_iand C.1 C.2.1 hd (hK _ _ _ _ _ _ h H locs cells slots ls h1 h2 h3 h4 h5)
  · exact h.elim
theorem ok_ishr (C : kx_C E p s m args meth c cc nL ws own) (hd : decode cc pc = .ok (.ishr, 1)) : kx_ok (kx_G E Wd p e R s m args below meth c nL Q) Qr pc (t_bin (pc + 1) (fun x y => x >>> (y &&& 31))) := by
  intro K hK bc bs L S M h H locs cells slots ls h1 h2 h3 h4 h5
  unfold t_bin at h
  split at h
  · exact lv_ishr C.1 C.2.1 hd (hK _ _ _ _ _ _ h H locs cells slots ls h1 h2 h3 h4 h5)
  · exact h.elim
theorem ok_idiv (C : kx_C E p s m args meth c cc nL ws own) (hd : decode cc pc = .ok (.idiv, 1)) : kx_ok (kx_G E Wd p e R s m args below meth c nL Q) Qr pc (t_dv (pc + 1) (fun x y => x / y)) := by
  intro K hK bc bs L S M h H locs cells slots ls h1 h2 h3 h4 h5
  unfold t_dv at h
  split at h
  · obtain ⟨hy, h⟩ := h
    exact lv_idiv C.1 C.2.1 hd hy (hK _ _ _ _ _ _ h H locs cells slots ls h1 h2 h3 h4 h5)
  · exact h.elim
theorem ok_irem (C : kx_C E p s m args meth c cc nL ws own) (hd : decode cc pc = .ok (.irem, 1)) : kx_ok (kx_G E Wd p e R s m args below meth c nL Q) Qr pc (t_dv (pc + 1) (fun x y => x - x / y * y)) := by
  intro K hK bc bs L S M h H locs cells slots ls h1 h2 h3 h4 h5
  unfold t_dv at h
  split at h
  · obtain ⟨hy, h⟩ := h
    exact lv_irem C.1 C.2.1 hd hy (hK _ _ _ _ _ _ h H locs cells slots ls h1 h2 h3 h4 h5)
  · exact h.elim
theorem ok_ladd (C : kx_C E p s m args meth c cc nL ws own) (hd : decode cc pc = .ok (.ladd, 1)) : kx_ok (kx_G E Wd p e R s m args below meth c nL Q) Qr pc (t_lbin (pc + 1) (fun x y => x + y)) := by
  intro K hK bc bs L S M h H locs cells slots ls h1 h2 h3 h4 h5
  unfold t_lbin at h
  split at h
  · exact lv_ladd C.1 C.2.1 hd (hK _ _ _ _ _ _ h H locs cells slots ls h1 h2 h3 h4 h5)
  · exact h.elim
theorem ok_lmul (C : kx_C E p s m args meth c cc nL ws own) (hd : decode cc pc = .ok (.lmul, 1)) : kx_ok (kx_G E Wd p e R s m args below meth c nL Q) Qr pc (t_lbin (pc + 1) (fun x y => x * y)) := by
  intro K hK bc bs L S M h H locs cells slots ls h1 h2 h3 h4 h5
  unfold t_lbin at h
  split at h
  · exact lv_lmul C.1 C.2.1 hd (hK _ _ _ _ _ _ h H locs cells slots ls h1 h2 h3 h4 h5)
  · exact h.elim
theorem ok_lcmp (C : kx_C E p s m args meth c cc nL ws own) (hd : decode cc pc = .ok (.lcmp, 1)) : kx_ok (kx_G E Wd p e R s m args below meth c nL Q) Qr pc (t_lcmp (pc + 1)) := by
  intro K hK bc bs L S M h H locs cells slots ls h1 h2 h3 h4 h5
  unfold t_lcmp at h
  split at h
  · exact W.lcmp C.1 C.2.1 hd (hK _ _ _ _ _ _ h H locs cells slots ls h1 h2 h3 h4 h5)
  · exact h.elim
theorem ok_i2l (C : kx_C E p s m args meth c cc nL ws own) (hd : decode cc pc = .ok (.i2l, 1)) : kx_ok (kx_G E Wd p e R s m args below meth c nL Q) Qr pc (t_itl (pc + 1)) := by
  intro K hK bc bs L S M h H locs cells slots ls h1 h2 h3 h4 h5
  unfold t_itl at h
  split at h
  · exact lv_i2l C.1 C.2.1 hd rfl (hK _ _ _ _ _ _ h H locs cells slots ls h1 h2 h3 h4 h5)
  · exact h.elim
theorem ok_dup (C : kx_C E p s m args meth c cc nL ws own) (hd : decode cc pc = .ok (.dup, 1)) : kx_ok (kx_G E Wd p e R s m args below meth c nL Q) Qr pc (t_dup (pc + 1)) := by
  intro K hK bc bs L S M h H locs cells slots ls h1 h2 h3 h4 h5
  unfold t_dup at h
  split at h
  · exact lv_dup C.1 C.2.1 hd h.1 (hK _ _ _ _ _ _ h.2 H locs cells slots ls h1 h2 h3 h4 h5)
  · exact h.elim
theorem ok_pop (C : kx_C E p s m args meth c cc nL ws own) (hd : decode cc pc = .ok (.pop, 1)) : kx_ok (kx_G E Wd p e R s m args below meth c nL Q) Qr pc (t_pop (pc + 1)) := by
  intro K hK bc bs L S M h H locs cells slots ls h1 h2 h3 h4 h5
  unfold t_pop at h
  split at h
  · exact lv_pop C.1 C.2.1 hd h.1 (hK _ _ _ _ _ _ h.2 H locs cells slots ls h1 h2 h3 h4 h5)
  · exact h.elim
theorem ok_dup_x1 (C : kx_C E p s m args meth c cc nL ws own) (hd : decode cc pc = .ok (.dup_x1, 1)) : kx_ok (kx_G E Wd p e R s m args below meth c nL Q) Qr pc (t_dupx (pc + 1)) := by
  intro K hK bc bs L S M h H locs cells slots ls h1 h2 h3 h4 h5
  unfold t_dupx at h
  split at h
  · exact lv_dup_x1 C.1 C.2.1 hd h.1 h.2.1 (hK _ _ _ _ _ _ h.2.2 H locs cells slots ls h1 h2 h3 h4 h5)
  · exact h.elim
theorem ok_gotoK (C : kx_C E p s m args meth c cc nL ws own) {off : Int} {tgt m0 : Nat} (hd : decode cc pc = .ok (.goto off, 3)) (ht : (pc : Int) + off = (tgt : Int)) : kx_ok (kx_G E Wd p e R s m args below meth c nL Q) Qr pc (t_gk tgt m0) := fun K hK bc bs L S M h H locs cells slots ls h1 h2 h3 h4 h5 => lv_goto C.1 C.2.1 hd ht (hK _ _ _ _ _ _ h H locs cells slots ls h1 h2 ⟨h3.1, h3.2.1, fun q hq => h3.2.2 q (cutL_sub q hq)⟩ h4 h5)
theorem ok_goto (C : kx_C E p s m args meth c cc nL ws own) {off : Int} {tgt : Nat} (hd : decode cc pc = .ok (.goto off, 3)) (ht : (pc : Int) + off = (tgt : Int)) : kx_ok (kx_G E Wd p e R s m args below meth c nL Q) Qr pc (t_go tgt) := fun K hK bc bs L S M h H locs cells slots ls h1 h2 h3 h4 h5 => lv_goto C.1 C.2.1 hd ht (hK _ _ _ _ _ _ h H locs cells slots ls h1 h2 h3 h4 h5)
theorem ok_if_eq (C : kx_C E p s m args meth c cc nL ws own) {off : Int} {tgt : Nat} (hd : decode cc pc = .ok (.ifCond .eq off, 3)) (ht : (pc : Int) + off = (tgt : Int)) : kx_ok (kx_G E Wd p e R s m args below meth c nL Q) Qr pc (t_if (pc + 3) tgt (fun x => x = 0)) := by
  intro K hK bc bs L S M h H locs cells slots ls h1 h2 h3 h4 h5
  unfold t_if at h
  split at h
  · exact lv_if_eq C.1 C.2.1 hd ht (fun z => hK _ _ _ _ _ _ (h.1 (by simpa using z)) H locs cells slots ls h1 h2 h3 h4 h5) (fun z => hK _ _ _ _ _ _ (h.2 (by simpa using z)) H locs cells slots ls h1 h2 h3 h4 h5)
  · exact h.elim
theorem ok_if_ne (C : kx_C E p s m args meth c cc nL ws own) {off : Int} {tgt : Nat} (hd : decode cc pc = .ok (.ifCond .ne off, 3)) (ht : (pc : Int) + off = (tgt : Int)) : kx_ok (kx_G E Wd p e R s m args below meth c nL Q) Qr pc (t_if (pc + 3) tgt (fun x => x ≠ 0)) := by
  intro K hK bc bs L S M h H locs cells slots ls h1 h2 h3 h4 h5
  unfold t_if at h
  split at h
  · exact lv_if_ne C.1 C.2.1 hd ht (fun z => hK _ _ _ _ _ _ (h.1 (by simpa using z)) H locs cells slots ls h1 h2 h3 h4 h5) (fun z => hK _ _ _ _ _ _ (h.2 (by simpa using z)) H locs cells slots ls h1 h2 h3 h4 h5)
  · exact h.elim
theorem ok_if_lt (C : kx_C E p s m args meth c cc nL ws own) {off : Int} {tgt : Nat} (hd : decode cc pc = .ok (.ifCond .lt off, 3)) (ht : (pc : Int) + off = (tgt : Int)) : kx_ok (kx_G E Wd p e R s m args below meth c nL Q) Qr pc (t_if (pc + 3) tgt (fun x => x < 0)) := by
  intro K hK bc bs L S M h H locs cells slots ls h1 h2 h3 h4 h5
  unfold t_if at h
  split at h
  · exact lv_if_lt C.1 C.2.1 hd ht (fun z => hK _ _ _ _ _ _ (h.1 (by simpa using z)) H locs cells slots ls h1 h2 h3 h4 h5) (fun z => hK _ _ _ _ _ _ (h.2 (by simpa using z)) H locs cells slots ls h1 h2 h3 h4 h5)
  · exact h.elim
theorem ok_if_ge (C : kx_C E p s m args meth c cc nL ws own) {off : Int} {tgt : Nat} (hd : decode cc pc = .ok (.ifCond .ge off, 3)) (ht : (pc : Int) + off = (tgt : Int)) : kx_ok (kx_G E Wd p e R s m args below meth c nL Q) Qr pc (t_if (pc + 3) tgt (fun x => 0 ≤ x)) := by
  intro K hK bc bs L S M h H locs cells slots ls h1 h2 h3 h4 h5
  unfold t_if at h
  split at h
  · exact lv_if_ge C.1 C.2.1 hd ht (fun z => hK _ _ _ _ _ _ (h.1 (by simpa using z)) H locs cells slots ls h1 h2 h3 h4 h5) (fun z => hK _ _ _ _ _ _ (h.2 (by simpa using z)) H locs cells slots ls h1 h2 h3 h4 h5)
  · exact h.elim
theorem ok_if_gt (C : kx_C E p s m args meth c cc nL ws own) {off : Int} {tgt : Nat} (hd : decode cc pc = .ok (.ifCond .gt off, 3)) (ht : (pc : Int) + off = (tgt : Int)) : kx_ok (kx_G E Wd p e R s m args below meth c nL Q) Qr pc (t_if (pc + 3) tgt (fun x => 0 < x)) := by
  intro K hK bc bs L S M h H locs cells slots ls h1 h2 h3 h4 h5
  unfold t_if at h
  split at h
  · exact lv_if_gt C.1 C.2.1 hd ht (fun z => hK _ _ _ _ _ _ (h.1 (by simpa using z)) H locs cells slots ls h1 h2 h3 h4 h5) (fun z => hK _ _ _ _ _ _ (h.2 (by simpa using z)) H locs cells slots ls h1 h2 h3 h4 h5)
  · exact h.elim
theorem ok_if_le (C : kx_C E p s m args meth c cc nL ws own) {off : Int} {tgt : Nat} (hd : decode cc pc = .ok (.ifCond .le off, 3)) (ht : (pc : Int) + off = (tgt : Int)) : kx_ok (kx_G E Wd p e R s m args below meth c nL Q) Qr pc (t_if (pc + 3) tgt (fun x => x ≤ 0)) := by
  intro K hK bc bs L S M h H locs cells slots ls h1 h2 h3 h4 h5
  unfold t_if at h
  split at h
  · exact lv_if_le C.1 C.2.1 hd ht (fun z => hK _ _ _ _ _ _ (h.1 (by simpa using z)) H locs cells slots ls h1 h2 h3 h4 h5) (fun z => hK _ _ _ _ _ _ (h.2 (by simpa using z)) H locs cells slots ls h1 h2 h3 h4 h5)
  · exact h.elim
theorem ok_ic_eq (C : kx_C E p s m args meth c cc nL ws own) {off : Int} {tgt : Nat} (hd : decode cc pc = .ok (.if_icmp .eq off, 3)) (ht : (pc : Int) + off = (tgt : Int)) : kx_ok (kx_G E Wd p e R s m args below meth c nL Q) Qr pc (t_ic (pc + 3) tgt (fun x y => x = y)) := by
  intro K hK bc bs L S M h H locs cells slots ls h1 h2 h3 h4 h5
  unfold t_ic at h
  split at h
  · exact lv_icmp_eq C.1 C.2.1 hd ht (fun z => hK _ _ _ _ _ _ (h.1 (by simpa using z)) H locs cells slots ls h1 h2 h3 h4 h5) (fun z => hK _ _ _ _ _ _ (h.2 (by simpa using z)) H locs cells slots ls h1 h2 h3 h4 h5)
  · exact h.elim
theorem ok_ic_ne (C : kx_C E p s m args meth c cc nL ws own) {off : Int} {tgt : Nat} (hd : decode cc pc = .ok (.if_icmp .ne off, 3)) (ht : (pc : Int) + off = (tgt : Int)) : kx_ok (kx_G E Wd p e R s m args below meth c nL Q) Qr pc (t_ic (pc + 3) tgt (fun x y => x ≠ y)) := by
  intro K hK bc bs L S M h H locs cells slots ls h1 h2 h3 h4 h5
  unfold t_ic at h
  split at h
  · exact lv_icmp_ne C.1 C.2.1 hd ht (fun z => hK _ _ _ _ _ _ (h.1 (by simpa using z)) H locs cells slots ls h1 h2 h3 h4 h5) (fun z => hK _ _ _ _ _ _ (h.2 (by simpa using z)) H locs cells slots ls h1 h2 h3 h4 h5)
  · exact h.elim
theorem ok_ic_lt (C : kx_C E p s m args meth c cc nL ws own) {off : Int} {tgt : Nat} (hd : decode cc pc = .ok (.if_icmp .lt off, 3)) (ht : (pc : Int) + off = (tgt : Int)) : kx_ok (kx_G E Wd p e R s m args below meth c nL Q) Qr pc (t_ic (pc + 3) tgt (fun x y => x < y)) := by
  intro K hK bc bs L S M h H locs cells slots ls h1 h2 h3 h4 h5
  unfold t_ic at h
  split at h
  · exact lv_icmp_lt C.1 C.2.1 hd ht (fun z => hK _ _ _ _ _ _ (h.1 (by simpa using z)) H locs cells slots ls h1 h2 h3 h4 h5) (fun z => hK _ _ _ _ _ _ (h.2 (by simpa using z)) H locs cells slots ls h1 h2 h3 h4 h5)
  · exact h.elim
theorem ok_ic_ge (C : kx_C E p s m args meth c cc nL ws own) {off : Int} {tgt : Nat} (hd : decode cc pc = .ok (.if_icmp .ge off, 3)) (ht : (pc : Int) + off = (tgt : Int)) : kx_ok (kx_G E Wd p e R s m args below meth c nL Q) Qr pc (t_ic (pc + 3) tgt (fun x y => y ≤ x)) := by
  intro K hK bc bs L S M h H locs cells slots ls h1 h2 h3 h4 h5
  unfold t_ic at h
  split at h
  · exact lv_icmp_ge C.1 C.2.1 hd ht (fun z => hK _ _ _ _ _ _ (h.1 (by simpa using z)) H locs cells slots ls h1 h2 h3 h4 h5) (fun z => hK _ _ _ _ _ _ (h.2 (by simpa using z)) H locs cells slots ls h1 h2 h3 h4 h5)
  · exact h.elim
theorem ok_ic_gt (C : kx_C E p s m args meth c cc nL ws own) {off : Int} {tgt : Nat} (hd : decode cc pc = .ok (.if_icmp .gt off, 3)) (ht : (pc : Int) + off = (tgt : Int)) : kx_ok (kx_G E Wd p e R s m args below meth c nL Q) Qr pc (t_ic (pc + 3) tgt (fun x y => y < x)) := by
  intro K hK bc bs L S M h H locs cells slots ls h1 h2 h3 h4 h5
  unfold t_ic at h
  split at h
  · exact lv_icmp_gt C.1 C.2.1 hd ht (fun z => hK _ _ _ _ _ _ (h.1 (by simpa using z)) H locs cells slots ls h1 h2 h3 h4 h5) (fun z => hK _ _ _ _ _ _ (h.2 (by simpa using z)) H locs cells slots ls h1 h2 h3 h4 h5)
  · exact h.elim
theorem ok_ic_le (C : kx_C E p s m args meth c cc nL ws own) {off : Int} {tgt : Nat} (hd : decode cc pc = .ok (.if_icmp .le off, 3)) (ht : (pc : Int) + off = (tgt : Int)) : kx_ok (kx_G E Wd p e R s m args below meth c nL Q) Qr pc (t_ic (pc + 3) tgt (fun x y => x ≤ y)) := by
  intro K hK bc bs L S M h H locs cells slots ls h1 h2 h3 h4 h5
  unfold t_ic at h
  split at h
  · exact lv_icmp_le C.1 C.2.1 hd ht (fun z => hK _ _ _ _ _ _ (h.1 (by simpa using z)) H locs cells slots ls h1 h2 h3 h4 h5) (fun z => hK _ _ _ _ _ _ (h.2 (by simpa using z)) H locs cells slots ls h1 h2 h3 h4 h5)
  · exact h.elim
theorem ok_ifnull (C : kx_C E p s m args meth c cc nL ws own) {off : Int} {tgt : Nat} (hd : decode cc pc = .ok (.ifnull off, 3)) (ht : (pc : Int) + off = (tgt : Int)) : kx_ok (kx_G E Wd p e R s m args below meth c nL Q) Qr pc (t_nul tgt (pc + 3)) := by
  intro K hK bc bs L S M h H locs cells slots ls h1 h2 h3 h4 h5
  unfold t_nul at h
  split at h
  · obtain ⟨o, ho, ha, hb⟩ := h
    subst ho
    cases o with
    | none => exact lv_ifnullN C.1 C.2.1 hd ht (hK _ _ _ _ _ _ (ha rfl) H locs cells slots ls h1 h2 h3 h4 h5)
    | some x => exact lv_ifnull C.1 C.2.1 hd (hK _ _ _ _ _ _ (hb (fun z => by cases z)) H locs cells slots ls h1 h2 h3 h4 h5)
  · exact h.elim
theorem ok_ifnonnull (C : kx_C E p s m args meth c cc nL ws own) {off : Int} {tgt : Nat} (hd : decode cc pc = .ok (.ifnonnull off, 3)) (ht : (pc : Int) + off = (tgt : Int)) : kx_ok (kx_G E Wd p e R s m args below meth c nL Q) Qr pc (t_nul (pc + 3) tgt) := by
  intro K hK bc bs L S M h H locs cells slots ls h1 h2 h3 h4 h5
  unfold t_nul at h
  split at h
  · obtain ⟨o, ho, ha, hb⟩ := h
    subst ho
    cases o with
    | none => exact lv_ifnonnullN C.1 C.2.1 hd (hK _ _ _ _ _ _ (ha rfl) H locs cells slots ls h1 h2 h3 h4 h5)
    | some x => exact lv_ifnonnull C.1 C.2.1 hd ht (hK _ _ _ _ _ _ (hb (fun z => by cases z)) H locs cells slots ls h1 h2 h3 h4 h5)
  · exact h.elim
theorem ok_acmp_eq (C : kx_C E p s m args meth c cc nL ws own) {off : Int} {tgt : Nat} (hd : decode cc pc = .ok (.if_acmp .eq off, 3)) (ht : (pc : Int) + off = (tgt : Int)) : kx_ok (kx_G E Wd p e R s m args below meth c nL Q) Qr pc (t_acmp tgt (pc + 3)) := by
  intro K hK bc bs L S M h H locs cells slots ls h1 h2 h3 h4 h5
  unfold t_acmp at h
  split at h
  · obtain ⟨o, ho, q, hq, ha, hb⟩ := h
    subst ho; subst hq
    exact lv_acmp_eq C.1 C.2.1 hd ht (fun z => hK _ _ _ _ _ _ (ha z) H locs cells slots ls h1 h2 h3 h4 h5) (fun z => hK _ _ _ _ _ _ (hb z) H locs cells slots ls h1 h2 h3 h4 h5)
  · exact h.elim
theorem ok_acmp_ne (C : kx_C E p s m args meth c cc nL ws own) {off : Int} {tgt : Nat} (hd : decode cc pc = .ok (.if_acmp .ne off, 3)) (ht : (pc : Int) + off = (tgt : Int)) : kx_ok (kx_G E Wd p e R s m args below meth c nL Q) Qr pc (t_acmp (pc + 3) tgt) := by
  intro K hK bc bs L S M h H locs cells slots ls h1 h2 h3 h4 h5
  unfold t_acmp at h
  split at h
  · obtain ⟨o, ho, q, hq, ha, hb⟩ := h
    subst ho; subst hq
    exact lv_acmp_ne C.1 C.2.1 hd ht (fun z => hK _ _ _ _ _ _ (hb z) H locs cells slots ls h1 h2 h3 h4 h5) (fun z => hK _ _ _ _ _ _ (ha z) H locs cells slots ls h1 h2 h3 h4 h5)
  · exact h.elim
end KXS
