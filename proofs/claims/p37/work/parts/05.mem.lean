/-- fresh cell: kind k, length n, all zero -/
def sN (M : kx_M) (a k n : Nat) : kx_M := (u1 (kd M) a k, u1 (ln M) a n, fun i b => if b = a then 0 else fI M i b, fun i b => if b = a then none else fR M i b, fun b i => if b = a then 0 else aI M b i, u1 (mL M) a [], fun b i => if b = a then none else aR M b i)
/-- what the instructions that touch the memory ask of a world: field access to the classes of cs; 'new' of class ci gives kind nw ci -/
def kx_good (E : kx_E) (cs : Nat → Bool) (nw : Nat → Nat) (Wd : kx_M → Heap → Prop) : Prop :=
  (∀ (M : kx_M) (H : Heap) (a ci : Nat) (r : vw_C), cs ci = true → vwCl[ci]? = some r → Wd M H → kd M a = ci + 1 → t_OB a ((kx_D E).1 ci) r.2.2 ((kx_D E).2 ci) H (fun k => kx_fv M ci k a)) ∧
  (∀ (M : kx_M) (H : Heap) (a : Nat), Wd M H → kd M a ≠ 0 → kx_ba E ≤ a) ∧
  (∀ (M : kx_M) (H H1 : Heap) (a ci k : Nat) (r : vw_C) (x : Int32), cs ci = true → vwCl[ci]? = some r → Wd M H → kd M a = ci + 1 → k < r.2.2 → kx_rf ci k = false → t_OB a ((kx_D E).1 ci) r.2.2 ((kx_D E).2 ci) H1 (fun j => kx_fv (sI M (20 * ci + k) a x) ci j a) → H1.size = H.size → (∀ q : Nat, q ≠ a → H1[q]? = H[q]?) → Wd (sI M (20 * ci + k) a x) H1) ∧
  (∀ (M : kx_M) (H H1 : Heap) (a ci k : Nat) (r : vw_C) (x : Option Nat), cs ci = true → vwCl[ci]? = some r → Wd M H → kd M a = ci + 1 → k < r.2.2 → kx_rf ci k = true → t_OB a ((kx_D E).1 ci) r.2.2 ((kx_D E).2 ci) H1 (fun j => kx_fv (sR M (20 * ci + k) a x) ci j a) → H1.size = H.size → (∀ q : Nat, q ≠ a → H1[q]? = H[q]?) → Wd (sR M (20 * ci + k) a x) H1) ∧
  (∀ (M : kx_M) (H H1 : Heap) (ci : Nat) (r : vw_C), vwCl[ci]? = some r → Wd M H → t_OB H.size ((kx_D E).1 ci) r.2.2 ((kx_D E).2 ci) H1 (fun k => cond (kx_rf ci k) .null (.int 0)) → H1.size = H.size + 1 → (∀ q : Nat, q < H.size → H1[q]? = H[q]?) → Wd (sN M H.size (nw ci) 0) H1) ∧
  (∀ (M : kx_M) (H : Heap), Wd M H → kd M H.size = 0) ∧
  (∀ (M : kx_M) (H : Heap) (a : Nat), Wd M H → kd M a = 20 → H[a]? = some (arrV (kx_cA E 0) (ln M a) (fun j => .int (aI M a j)))) ∧
  (∀ (M : kx_M) (H H1 : Heap) (a i : Nat) (x : Int32), Wd M H → kd M a = 20 → H1[a]? = some (arrV (kx_cA E 0) (ln M a) (fun j => .int (aI (sA M a i x) a j))) → H1.size = H.size → (∀ q : Nat, q ≠ a → H1[q]? = H[q]?) → Wd (sA M a i x) H1) ∧
  (∀ (M : kx_M) (H H1 : Heap) (n : Nat), Wd M H → H1[H.size]? = some (arrV (kx_cA E 0) n (fun _ => .int 0)) → H1.size = H.size + 1 → (∀ q : Nat, q < H.size → H1[q]? = H[q]?) → Wd (sN M H.size 20 n) H1) ∧
  (∀ (M : kx_M) (H : Heap), Wd M H → H[kx_b E]? = some (kx_bc E) ∧ H[kx_e0 E]? = some (kx_ec E) ∧ H[kx_sa E]? = some (kx_sc E) ∧ kx_ba E ≤ H.size)
/-- an int field read of an object of kind kv -/
def t_gI (n kv f : Nat) : kx_T := fun K _ bc bs L S M => match S with
  | v :: S => ∃ a : Nat, v = .ref a ∧ kd M a = kv ∧ K bc bs n L (.int (fI M f a) :: S) M
  | _ => False
def t_gR (n kv f : Nat) : kx_T := fun K _ bc bs L S M => match S with
  | v :: S => ∃ a : Nat, v = .ref a ∧ kd M a = kv ∧ K bc bs n L (va_rf (fR M f a) :: S) M
  | _ => False
def t_pI (n kv f : Nat) : kx_T := fun K _ bc bs L S M => match S with
  | .int x :: v :: S => ∃ a : Nat, v = .ref a ∧ kd M a = kv ∧ K bc bs n L S (sI M f a x)
  | _ => False
def t_pZ (n kv f : Nat) : kx_T := fun K _ bc bs L S M => match S with
  | .int x :: v :: S => (x = 0 ∨ x = 1) ∧ ∃ a : Nat, v = .ref a ∧ kd M a = kv ∧ K bc bs n L S (sI M f a x)
  | _ => False
def t_pR (n kv f : Nat) : kx_T := fun K _ bc bs L S M => match S with
  | w :: v :: S => ∃ (o : Option Nat) (a : Nat), w = va_rf o ∧ v = .ref a ∧ kd M a = kv ∧ K bc bs n L S (sR M f a o)
  | _ => False
def t_new (n kv N : Nat) : kx_T := fun K _ bc bs L S M => 1 ≤ bc ∧ N ≤ bs ∧ ∀ a : Nat, kd M a = 0 → K (bc - 1) (bs - N) n L (.ref a :: S) (sN M a kv 0)
def t_nwa (n : Nat) : kx_T := fun K _ bc bs L S M => match S with
  | .int x :: S => 0 ≤ x ∧ x.toNatClampNeg ≤ 100000 ∧ 1 ≤ bc ∧ x.toNatClampNeg ≤ bs ∧ ∀ a : Nat, kd M a = 0 → K (bc - 1) (bs - x.toNatClampNeg) n L (.ref a :: S) (sN M a 20 x.toNatClampNeg)
  | _ => False
def t_ial (n : Nat) : kx_T := fun K _ bc bs L S M => match S with
  | .int i :: v :: S => ∃ a : Nat, v = .ref a ∧ kd M a = 20 ∧ vp_in i (ln M a) ∧ K bc bs n L (.int (aI M a i.toNatClampNeg) :: S) M
  | _ => False
def t_ias (n : Nat) : kx_T := fun K _ bc bs L S M => match S with
  | .int x :: .int i :: v :: S => ∃ a : Nat, v = .ref a ∧ kd M a = 20 ∧ vp_in i (ln M a) ∧ K bc bs n L S (sA M a i.toNatClampNeg x)
  | _ => False
def t_aln (n : Nat) : kx_T := fun K _ bc bs L S M => match S with
  | v :: S => ∃ a : Nat, v = .ref a ∧ kd M a = 20 ∧ K bc bs n L (.int (Int32.ofNat (ln M a)) :: S) M
  | _ => False
def t_cst (n kv : Nat) : kx_T := fun K _ bc bs L S M => match S with
  | v :: S => ∃ o : Option Nat, v = va_rf o ∧ (∀ a, o = some a → kd M a = kv) ∧ K bc bs n L (va_rf o :: S) M
  | _ => False
/-- the script's length; an int of it -/
def t_sln (E : kx_E) (n : Nat) : kx_T := fun K _ bc bs L S M => match S with
  | v :: S => v = .ref (kx_b E) ∧ K bc bs n L (.int (Int32.ofNat (kx_L E)) :: S) M
  | _ => False
def t_sld (E : kx_E) (n : Nat) : kx_T := fun K _ bc bs L S M => match S with
  | .int i :: v :: S => v = .ref (kx_b E) ∧ vp_in i (kx_L E) ∧ K bc bs n L (.int (kx_xs E i.toNatClampNeg) :: S) M
  | _ => False
def t_iret : kx_T := fun _ Qr _ _ _ S M => match S with
  | [.int x] => Qr (some (.int x)) M
  | _ => False
def t_zret : kx_T := fun _ Qr _ _ _ S M => match S with
  | [.int x] => (x = 0 ∨ x = 1) ∧ Qr (some (.int x)) M
  | _ => False
def t_lret : kx_T := fun _ Qr _ _ _ S M => match S with
  | [.long x] => Qr (some (.long x)) M
  | _ => False
def t_aret : kx_T := fun _ Qr _ _ _ S M => match S with
  | [v] => kx_isr v ∧ Qr (some v) M
  | _ => False
def t_vret : kx_T := fun _ Qr _ _ _ S M => match S with
  | [] => Qr none M
  | _ => False
/-- a throw: never reached -/
def t_no : kx_T := fun _ _ _ _ _ _ _ => False
theorem kx_fv_I {M : kx_M} {ci k a : Nat} (h : kx_rf ci k = false) : kx_fv M ci k a = .int (fI M (20 * ci + k) a) := by unfold kx_fv; rw [h]; rfl
theorem kx_fv_R {M : kx_M} {ci k a : Nat} (h : kx_rf ci k = true) : kx_fv M ci k a = va_rf (fR M (20 * ci + k) a) := by unfold kx_fv; rw [h]; rfl
theorem kx_fv_sI {M : kx_M} {ci k a : Nat} {x : Int32} (h : kx_rf ci k = false) (j : Nat) : updV (fun j => kx_fv M ci j a) k (.int x) j = kx_fv (sI M (20 * ci + k) a x) ci j a := by
  unfold updV
  by_cases hj : j = k
  · subst hj
    rw [if_pos rfl, kx_fv_I h]
    show _ = Value.int (u2 (fI M) _ _ x _ _)
    simp [u2]
  · rw [if_neg hj]
    unfold kx_fv
    have e1 : fI (sI M (20 * ci + k) a x) (20 * ci + j) a = fI M (20 * ci + j) a := by
      show u2 (fI M) _ _ x _ _ = _
      unfold u2
      rw [if_neg (by omega)]
    have e2 : fR (sI M (20 * ci + k) a x) = fR M := rfl
    rw [e1, e2]
theorem kx_fv_sR {M : kx_M} {ci k a : Nat} {x : Option Nat} (h : kx_rf ci k = true) (j : Nat) : updV (fun j => kx_fv M ci j a) k (va_rf x) j = kx_fv (sR M (20 * ci + k) a x) ci j a := by
  unfold updV
  by_cases hj : j = k
  · subst hj
    rw [if_pos rfl, kx_fv_R h]
    show _ = va_rf (u2 (fR M) _ _ x _ _)
    simp [u2]
  · rw [if_neg hj]
    unfold kx_fv
    have e1 : fR (sR M (20 * ci + k) a x) (20 * ci + j) a = fR M (20 * ci + j) a := by
      show u2 (fR M) _ _ x _ _ = _
      unfold u2
      rw [if_neg (by omega)]
    have e2 : fI (sR M (20 * ci + k) a x) = fI M := rfl
    rw [e1, e2]
section KXM
variable {E : kx_E} {cs : Nat → Bool} {nw : Nat → Nat} {Wd : kx_M → Heap → Prop} {p : Program} {e : Env} {R : Room} {s : State} {m : MethodId} {args : Array Value} {below : List Frame} {meth : Method} {c : Code} {nL : Nat} {Q : State → Prop} {cc : ByteArray} {ws : List Cond} {own : String} {Qr : kx_Q} {pc : Nat}
theorem ok_gI (C : kx_C E p s m args meth c cc nL ws own) {ci k : Nat} {Cn : String} {T : u_T} {N index : Nat} {ref : String} (hg : kx_good E cs nw Wd) (hc : vwCl[ci]? = some (Cn, T, N)) (hcs : cs ci = true) (hk : k < N) (hin : ∀ w ∈ u_ws Cn T N, w ∈ ws) (hlink : Cond.fieldLink own index ref (T k).2.1 (T k).2.2.1 ∈ ws) (hsame : ∀ x, s.fieldFound? (T k).1 (T k).2.1 (T k).2.2.1 = some x → s.fieldFound? ref (T k).2.1 (T k).2.2.1 = some x) (hrf : kx_rf ci k = false) (hd : decode cc pc = .ok (.getfield index, 3)) : kx_ok (kx_G E Wd p e R s m args below meth c nL Q) Qr pc (t_gI (pc + 3) (ci + 1) (20 * ci + k)) := by
  intro K hK bc bs L S M h H locs cells slots ls h1 h2 h3 h4 h5
  unfold t_gI at h
  split at h
  · obtain ⟨a, ha, hka, h⟩ := h
    subst ha
    obtain ⟨cell, q1, q2, q3, q4⟩ := hg.1 M H a ci _ hcs hc h1 hka
    obtain ⟨hS, hfc, kC, hkC, hkind⟩ := C.2.2.2.2.2.1.1 ci _ hc
    obtain ⟨cf, kf, fi, f, hi, hsl⟩ := hS k hk
    refine W.getf C.1 C.2.1 C.2.2.2.2.1 (C.2.2.2.1 _ hlink) (hsame _ hi) (u_facts hfc hkC (u_lays C.2.2.2.1 hin hk) hi).1 q1 (by rw [q3]; exact fun h => by cases h) ?_ rfl rfl hd (hK _ _ _ _ _ _ h H locs cells slots ls h1 h2 h3 h4 h5)
    rw [hsl, q4 k hk]
    show some (kx_fv M ci k a) = _
    rw [kx_fv_I hrf]
  · exact h.elim
theorem ok_gR (C : kx_C E p s m args meth c cc nL ws own) {ci k : Nat} {Cn : String} {T : u_T} {N index : Nat} {ref : String} (hg : kx_good E cs nw Wd) (hc : vwCl[ci]? = some (Cn, T, N)) (hcs : cs ci = true) (hk : k < N) (hin : ∀ w ∈ u_ws Cn T N, w ∈ ws) (hlink : Cond.fieldLink own index ref (T k).2.1 (T k).2.2.1 ∈ ws) (hsame : ∀ x, s.fieldFound? (T k).1 (T k).2.1 (T k).2.2.1 = some x → s.fieldFound? ref (T k).2.1 (T k).2.2.1 = some x) (hrf : kx_rf ci k = true) (hd : decode cc pc = .ok (.getfield index, 3)) : kx_ok (kx_G E Wd p e R s m args below meth c nL Q) Qr pc (t_gR (pc + 3) (ci + 1) (20 * ci + k)) := by
  intro K hK bc bs L S M h H locs cells slots ls h1 h2 h3 h4 h5
  unfold t_gR at h
  split at h
  · obtain ⟨a, ha, hka, h⟩ := h
    subst ha
    obtain ⟨cell, q1, q2, q3, q4⟩ := hg.1 M H a ci _ hcs hc h1 hka
    obtain ⟨hS, hfc, kC, hkC, hkind⟩ := C.2.2.2.2.2.1.1 ci _ hc
    obtain ⟨cf, kf, fi, f, hi, hsl⟩ := hS k hk
    refine W.getf C.1 C.2.1 C.2.2.2.2.1 (C.2.2.2.1 _ hlink) (hsame _ hi) (u_facts hfc hkC (u_lays C.2.2.2.1 hin hk) hi).1 q1 (by rw [q3]; exact fun h => by cases h) ?_ rfl rfl hd (hK _ _ _ _ _ _ h H locs cells slots ls h1 h2 h3 h4 h5)
    rw [hsl, q4 k hk]
    show some (kx_fv M ci k a) = _
    rw [kx_fv_R hrf]
  · exact h.elim
theorem ok_pI (C : kx_C E p s m args meth c cc nL ws own) {ci k : Nat} {Cn : String} {T : u_T} {N index : Nat} {ref : String} (hg : kx_good E cs nw Wd) (hc : vwCl[ci]? = some (Cn, T, N)) (hcs : cs ci = true) (hk : k < N) (hin : ∀ w ∈ u_ws Cn T N, w ∈ ws) (hlink : Cond.fieldLink own index ref (T k).2.1 (T k).2.2.1 ∈ ws) (hsame : ∀ x, s.fieldFound? (T k).1 (T k).2.1 (T k).2.2.1 = some x → s.fieldFound? ref (T k).2.1 (T k).2.2.1 = some x) (ty0 : Nat → FieldType) (hty0 : ∀ k, k < N → parseFieldDescriptor (T k).2.2.1 = some (ty0 k)) (hnm : ∀ a, a < N → ∀ b, b < N → a ≠ b → (T a).2.1 ≠ (T b).2.1) (hrf : kx_rf ci k = false) (hty : parseFieldDescriptor (T k).2.2.1 = some .int) (hfin : (T k).2.2.2 = false) (hd : decode cc pc = .ok (.putfield index, 3)) : kx_ok (kx_G E Wd p e R s m args below meth c nL Q) Qr pc (t_pI (pc + 3) (ci + 1) (20 * ci + k)) := by
  intro K hK bc bs L S M h H locs cells slots ls h1 h2 h3 h4 h5
  unfold t_pI at h
  split at h
  · rename_i x v S'
    obtain ⟨a, ha, hka, h⟩ := h
    subst ha
    have hap := va_apart (own := own) C.2.2.2.1 hin ty0 hty0 hnm C.2.2.2.2.2.1 hc
    obtain ⟨cell, q1, q2, q3, q4⟩ := hg.1 M H a ci _ hcs hc h1 hka
    obtain ⟨hS, hfc, kC, hkC, hkind⟩ := C.2.2.2.2.2.1.1 ci _ hc
    obtain ⟨cf, kf, fi, f, hi, hsl⟩ := hS k hk
    have hlay := C.2.2.2.1 _ (hin _ (u_in_lay hk))
    unfold u_lay at hlay
    rw [if_neg (by rw [hfin]; decide)] at hlay
    have hst := (u_facts hfc hkC (u_lays C.2.2.2.1 hin hk) hi).1
    have h6 := u_store hfc hkC hkind hlay hi hty (v := (.int x)) rfl rfl
    refine W.putK C.1 C.2.1 (f := f) ⟨C.2.2.2.2.1, C.2.2.2.1 _ hlink, ⟨_, _, _, hsame _ hi⟩, hst⟩ (by rw [q2]; exact h6) q1 q3 (by rw [hsl]; exact k2_hasslot (q4 k hk)) rfl rfl hd fun H1 e1 e2 e3 => ?_
    rw [hsl] at e1 ⊢
    have hba := hg.2.1 M H a h1 (by rw [hka]; exact Nat.succ_ne_zero ci)
    refine hK _ _ _ _ _ _ h H1 _ cells slots ls (hg.2.2.1 M H H1 a ci k _ x hcs hc h1 hka hk hrf ?_ e2 e3) ?_ h3 h4 h5
    · exact t_OB.to (V := updV (fun j => kx_fv M ci j a) k (.int x)) ⟨_, e1, q2, q3, t_set q4 hap hk (.int x)⟩ (fun j _ => kx_fv_sI hrf j)
    · intro q hq
      rcases List.mem_append.mp hq with hq | hq
      · exact h2 q hq
      · rw [List.mem_singleton.mp hq]
        exact hba
  · exact h.elim
theorem ok_pIF (C : kx_C E p s m args meth c cc nL ws own) {ci k : Nat} {Cn : String} {T : u_T} {N index : Nat} {ref : String} (hg : kx_good E cs nw Wd) (hc : vwCl[ci]? = some (Cn, T, N)) (hcs : cs ci = true) (hk : k < N) (hin : ∀ w ∈ u_ws Cn T N, w ∈ ws) (hlink : Cond.fieldLink own index ref (T k).2.1 (T k).2.2.1 ∈ ws) (hsame : ∀ x, s.fieldFound? (T k).1 (T k).2.1 (T k).2.2.1 = some x → s.fieldFound? ref (T k).2.1 (T k).2.2.1 = some x) (ty0 : Nat → FieldType) (hty0 : ∀ k, k < N → parseFieldDescriptor (T k).2.2.1 = some (ty0 k)) (hnm : ∀ a, a < N → ∀ b, b < N → a ≠ b → (T a).2.1 ≠ (T b).2.1) (hrf : kx_rf ci k = false) (hty : parseFieldDescriptor (T k).2.2.1 = some .int) (hfin : (T k).2.2.2 = true) (hin2 : meth.name = "<init>") (hdecl : (T k).1 = own) (hd : decode cc pc = .ok (.putfield index, 3)) : kx_ok (kx_G E Wd p e R s m args below meth c nL Q) Qr pc (t_pI (pc + 3) (ci + 1) (20 * ci + k)) := by
  intro K hK bc bs L S M h H locs cells slots ls h1 h2 h3 h4 h5
  unfold t_pI at h
  split at h
  · rename_i x v S'
    obtain ⟨a, ha, hka, h⟩ := h
    subst ha
    have hap := va_apart (own := own) C.2.2.2.1 hin ty0 hty0 hnm C.2.2.2.2.2.1 hc
    obtain ⟨cell, q1, q2, q3, q4⟩ := hg.1 M H a ci _ hcs hc h1 hka
    obtain ⟨hS, hfc, kC, hkC, hkind⟩ := C.2.2.2.2.2.1.1 ci _ hc
    obtain ⟨cf, kf, fi, f, hi, hsl⟩ := hS k hk
    have hlay := C.2.2.2.1 _ (hin _ (u_in_lay hk))
    unfold u_lay at hlay
    rw [if_pos hfin] at hlay
    have hst := (u_facts hfc hkC (u_lays C.2.2.2.1 hin hk) hi).1
    have hcf : m.cls = cf := by
      obtain ⟨_, _, c', _, _, _, -, -, hf', -, -, -, hown2, -⟩ := Cond.laysFinal_spec hlay
      have e1 : c' = cf := by have := hi.symm.trans hf'; simp at this; exact this.1.symm
      rw [hdecl] at hown2
      rw [← e1]; exact Option.some.inj (C.2.2.2.2.1.symm.trans hown2)
    have h6 := u_fits hfc hkC hkind (Or.inr hlay) hi hty (v := (.int x)) rfl rfl
    refine W.putFinK C.1 C.2.1 C.2.2.2.2.1 (C.2.2.2.1 _ hlink) (hsame _ hi) hst hcf hin2 (by rw [q2]; exact h6) q1 q3 (by rw [hsl]; exact k2_hasslot (q4 k hk)) rfl rfl hd fun H1 e1 e2 e3 => ?_
    rw [hsl] at e1 ⊢
    have hba := hg.2.1 M H a h1 (by rw [hka]; exact Nat.succ_ne_zero ci)
    refine hK _ _ _ _ _ _ h H1 _ cells slots ls (hg.2.2.1 M H H1 a ci k _ x hcs hc h1 hka hk hrf ?_ e2 e3) ?_ h3 h4 h5
    · exact t_OB.to (V := updV (fun j => kx_fv M ci j a) k (.int x)) ⟨_, e1, q2, q3, t_set q4 hap hk (.int x)⟩ (fun j _ => kx_fv_sI hrf j)
    · intro q hq
      rcases List.mem_append.mp hq with hq | hq
      · exact h2 q hq
      · rw [List.mem_singleton.mp hq]
        exact hba
  · exact h.elim
theorem ok_pZ (C : kx_C E p s m args meth c cc nL ws own) {ci k : Nat} {Cn : String} {T : u_T} {N index : Nat} {ref : String} (hg : kx_good E cs nw Wd) (hc : vwCl[ci]? = some (Cn, T, N)) (hcs : cs ci = true) (hk : k < N) (hin : ∀ w ∈ u_ws Cn T N, w ∈ ws) (hlink : Cond.fieldLink own index ref (T k).2.1 (T k).2.2.1 ∈ ws) (hsame : ∀ x, s.fieldFound? (T k).1 (T k).2.1 (T k).2.2.1 = some x → s.fieldFound? ref (T k).2.1 (T k).2.2.1 = some x) (ty0 : Nat → FieldType) (hty0 : ∀ k, k < N → parseFieldDescriptor (T k).2.2.1 = some (ty0 k)) (hnm : ∀ a, a < N → ∀ b, b < N → a ≠ b → (T a).2.1 ≠ (T b).2.1) (hrf : kx_rf ci k = false) (hty : parseFieldDescriptor (T k).2.2.1 = some .boolean) (hfin : (T k).2.2.2 = false) (hd : decode cc pc = .ok (.putfield index, 3)) : kx_ok (kx_G E Wd p e R s m args below meth c nL Q) Qr pc (t_pZ (pc + 3) (ci + 1) (20 * ci + k)) := by
  intro K hK bc bs L S M h H locs cells slots ls h1 h2 h3 h4 h5
  unfold t_pZ at h
  split at h
  · rename_i x v S'
    obtain ⟨hz, a, ha, hka, h⟩ := h
    subst ha
    have hap := va_apart (own := own) C.2.2.2.1 hin ty0 hty0 hnm C.2.2.2.2.2.1 hc
    obtain ⟨cell, q1, q2, q3, q4⟩ := hg.1 M H a ci _ hcs hc h1 hka
    obtain ⟨hS, hfc, kC, hkC, hkind⟩ := C.2.2.2.2.2.1.1 ci _ hc
    obtain ⟨cf, kf, fi, f, hi, hsl⟩ := hS k hk
    have hlay := C.2.2.2.1 _ (hin _ (u_in_lay hk))
    unfold u_lay at hlay
    rw [if_neg (by rw [hfin]; decide)] at hlay
    have hst := (u_facts hfc hkC (u_lays C.2.2.2.1 hin hk) hi).1
    have h6 := u_store hfc hkC hkind hlay hi hty (v := (.int x)) (by rcases hz with rfl | rfl <;> rfl) (by rcases hz with rfl | rfl <;> rfl)
    refine W.putK C.1 C.2.1 (f := f) ⟨C.2.2.2.2.1, C.2.2.2.1 _ hlink, ⟨_, _, _, hsame _ hi⟩, hst⟩ (by rw [q2]; exact h6) q1 q3 (by rw [hsl]; exact k2_hasslot (q4 k hk)) rfl rfl hd fun H1 e1 e2 e3 => ?_
    rw [hsl] at e1 ⊢
    have hba := hg.2.1 M H a h1 (by rw [hka]; exact Nat.succ_ne_zero ci)
    refine hK _ _ _ _ _ _ h H1 _ cells slots ls (hg.2.2.1 M H H1 a ci k _ x hcs hc h1 hka hk hrf ?_ e2 e3) ?_ h3 h4 h5
    · exact t_OB.to (V := updV (fun j => kx_fv M ci j a) k (.int x)) ⟨_, e1, q2, q3, t_set q4 hap hk (.int x)⟩ (fun j _ => kx_fv_sI hrf j)
    · intro q hq
      rcases List.mem_append.mp hq with hq | hq
      · exact h2 q hq
      · rw [List.mem_singleton.mp hq]
        exact hba
  · exact h.elim
theorem ok_pR (C : kx_C E p s m args meth c cc nL ws own) {ci k : Nat} {Cn : String} {T : u_T} {N index : Nat} {ref : String} (hg : kx_good E cs nw Wd) (hc : vwCl[ci]? = some (Cn, T, N)) (hcs : cs ci = true) (hk : k < N) (hin : ∀ w ∈ u_ws Cn T N, w ∈ ws) (hlink : Cond.fieldLink own index ref (T k).2.1 (T k).2.2.1 ∈ ws) (hsame : ∀ x, s.fieldFound? (T k).1 (T k).2.1 (T k).2.2.1 = some x → s.fieldFound? ref (T k).2.1 (T k).2.2.1 = some x) (ty0 : Nat → FieldType) (hty0 : ∀ k, k < N → parseFieldDescriptor (T k).2.2.1 = some (ty0 k)) (hnm : ∀ a, a < N → ∀ b, b < N → a ≠ b → (T a).2.1 ≠ (T b).2.1) (hrf : kx_rf ci k = true) {ty : FieldType} (hty : parseFieldDescriptor (T k).2.2.1 = some ty) (hrt : ∀ o : Option Nat, narrow ty (va_rf o) = va_rf o ∧ fits ty (va_rf o) = true) (hfin : (T k).2.2.2 = false) (hd : decode cc pc = .ok (.putfield index, 3)) : kx_ok (kx_G E Wd p e R s m args below meth c nL Q) Qr pc (t_pR (pc + 3) (ci + 1) (20 * ci + k)) := by
  intro K hK bc bs L S M h H locs cells slots ls h1 h2 h3 h4 h5
  unfold t_pR at h
  split at h
  · rename_i w v S'
    obtain ⟨o, a, ho, ha, hka, h⟩ := h
    subst ho; subst ha
    have hap := va_apart (own := own) C.2.2.2.1 hin ty0 hty0 hnm C.2.2.2.2.2.1 hc
    obtain ⟨cell, q1, q2, q3, q4⟩ := hg.1 M H a ci _ hcs hc h1 hka
    obtain ⟨hS, hfc, kC, hkC, hkind⟩ := C.2.2.2.2.2.1.1 ci _ hc
    obtain ⟨cf, kf, fi, f, hi, hsl⟩ := hS k hk
    have hlay := C.2.2.2.1 _ (hin _ (u_in_lay hk))
    unfold u_lay at hlay
    rw [if_neg (by rw [hfin]; decide)] at hlay
    have hst := (u_facts hfc hkC (u_lays C.2.2.2.1 hin hk) hi).1
    have h6 := u_store hfc hkC hkind hlay hi hty (v := (va_rf o)) (hrt o).1 (hrt o).2
    refine W.putK C.1 C.2.1 (f := f) ⟨C.2.2.2.2.1, C.2.2.2.1 _ hlink, ⟨_, _, _, hsame _ hi⟩, hst⟩ (by rw [q2]; exact h6) q1 q3 (by rw [hsl]; exact k2_hasslot (q4 k hk)) rfl rfl hd fun H1 e1 e2 e3 => ?_
    rw [hsl] at e1 ⊢
    have hba := hg.2.1 M H a h1 (by rw [hka]; exact Nat.succ_ne_zero ci)
    refine hK _ _ _ _ _ _ h H1 _ cells slots ls (hg.2.2.2.1 M H H1 a ci k _ o hcs hc h1 hka hk hrf ?_ e2 e3) ?_ h3 h4 h5
    · exact t_OB.to (V := updV (fun j => kx_fv M ci j a) k (va_rf o)) ⟨_, e1, q2, q3, t_set q4 hap hk (va_rf o)⟩ (fun j _ => kx_fv_sR hrf j)
    · intro q hq
      rcases List.mem_append.mp hq with hq | hq
      · exact h2 q hq
      · rw [List.mem_singleton.mp hq]
        exact hba
  · exact h.elim
theorem ok_pRF (C : kx_C E p s m args meth c cc nL ws own) {ci k : Nat} {Cn : String} {T : u_T} {N index : Nat} {ref : String} (hg : kx_good E cs nw Wd) (hc : vwCl[ci]? = some (Cn, T, N)) (hcs : cs ci = true) (hk : k < N) (hin : ∀ w ∈ u_ws Cn T N, w ∈ ws) (hlink : Cond.fieldLink own index ref (T k).2.1 (T k).2.2.1 ∈ ws) (hsame : ∀ x, s.fieldFound? (T k).1 (T k).2.1 (T k).2.2.1 = some x → s.fieldFound? ref (T k).2.1 (T k).2.2.1 = some x) (ty0 : Nat → FieldType) (hty0 : ∀ k, k < N → parseFieldDescriptor (T k).2.2.1 = some (ty0 k)) (hnm : ∀ a, a < N → ∀ b, b < N → a ≠ b → (T a).2.1 ≠ (T b).2.1) (hrf : kx_rf ci k = true) {ty : FieldType} (hty : parseFieldDescriptor (T k).2.2.1 = some ty) (hrt : ∀ o : Option Nat, narrow ty (va_rf o) = va_rf o ∧ fits ty (va_rf o) = true) (hfin : (T k).2.2.2 = true) (hin2 : meth.name = "<init>") (hdecl : (T k).1 = own) (hd : decode cc pc = .ok (.putfield index, 3)) : kx_ok (kx_G E Wd p e R s m args below meth c nL Q) Qr pc (t_pR (pc + 3) (ci + 1) (20 * ci + k)) := by
  intro K hK bc bs L S M h H locs cells slots ls h1 h2 h3 h4 h5
  unfold t_pR at h
  split at h
  · rename_i w v S'
    obtain ⟨o, a, ho, ha, hka, h⟩ := h
    subst ho; subst ha
    have hap := va_apart (own := own) C.2.2.2.1 hin ty0 hty0 hnm C.2.2.2.2.2.1 hc
    obtain ⟨cell, q1, q2, q3, q4⟩ := hg.1 M H a ci _ hcs hc h1 hka
    obtain ⟨hS, hfc, kC, hkC, hkind⟩ := C.2.2.2.2.2.1.1 ci _ hc
    obtain ⟨cf, kf, fi, f, hi, hsl⟩ := hS k hk
    have hlay := C.2.2.2.1 _ (hin _ (u_in_lay hk))
    unfold u_lay at hlay
    rw [if_pos hfin] at hlay
    have hst := (u_facts hfc hkC (u_lays C.2.2.2.1 hin hk) hi).1
    have hcf : m.cls = cf := by
      obtain ⟨_, _, c', _, _, _, -, -, hf', -, -, -, hown2, -⟩ := Cond.laysFinal_spec hlay
      have e1 : c' = cf := by have := hi.symm.trans hf'; simp at this; exact this.1.symm
      rw [hdecl] at hown2
      rw [← e1]; exact Option.some.inj (C.2.2.2.2.1.symm.trans hown2)
    have h6 := u_fits hfc hkC hkind (Or.inr hlay) hi hty (v := (va_rf o)) (hrt o).1 (hrt o).2
    refine W.putFinK C.1 C.2.1 C.2.2.2.2.1 (C.2.2.2.1 _ hlink) (hsame _ hi) hst hcf hin2 (by rw [q2]; exact h6) q1 q3 (by rw [hsl]; exact k2_hasslot (q4 k hk)) rfl rfl hd fun H1 e1 e2 e3 => ?_
    rw [hsl] at e1 ⊢
    have hba := hg.2.1 M H a h1 (by rw [hka]; exact Nat.succ_ne_zero ci)
    refine hK _ _ _ _ _ _ h H1 _ cells slots ls (hg.2.2.2.1 M H H1 a ci k _ o hcs hc h1 hka hk hrf ?_ e2 e3) ?_ h3 h4 h5
    · exact t_OB.to (V := updV (fun j => kx_fv M ci j a) k (va_rf o)) ⟨_, e1, q2, q3, t_set q4 hap hk (va_rf o)⟩ (fun j _ => kx_fv_sR hrf j)
    · intro q hq
      rcases List.mem_append.mp hq with hq | hq
      · exact h2 q hq
      · rw [List.mem_singleton.mp hq]
        exact hba
  · exact h.elim
theorem ok_new (C : kx_C E p s m args meth c cc nL ws own) {ci : Nat} {Cn : String} {T : u_T} {N index : Nat} (hg : kx_good E cs nw Wd) (hc : vwCl[ci]? = some (Cn, T, N)) (hin : ∀ w ∈ u_ws Cn T N, w ∈ ws) (hl : Cond.classLink own index Cn ∈ ws) (hi : Cond.instantiable Cn N ∈ ws) (hini : Cond.initialized Cn ∈ ws) (ty0 : Nat → FieldType) (hty0 : ∀ k, k < N → parseFieldDescriptor (T k).2.2.1 = some (ty0 k)) (hz : ∀ k, k < N → defaultValue (ty0 k) = cond (kx_rf ci k) .null (.int 0)) (hd : decode cc pc = .ok (.new index, 3)) : kx_ok (kx_G E Wd p e R s m args below meth c nL Q) Qr pc (t_new (pc + 3) (nw ci) N) := by
  intro K hK bc bs L S M h H locs cells slots ls h1 h2 h3 h4 h5
  obtain ⟨hb1, hb2, h⟩ := h
  have hKn := C.2.2.2.2.2.1.1 ci _ hc
  refine W.newcK C.1 C.2.1 C.2.2.2.2.1 (C.2.2.2.1 _ hl) (C.2.2.2.1 _ hi) (C.2.2.2.1 _ hini) rfl hd (by omega) (by omega) hKn.2.1 rfl fun H1 kC hkC e1 z1 o1 => ?_
  refine hK _ _ _ _ _ _ (h H.size (hg.2.2.2.2.2.1 M H h1)) H1 locs (cells + 1) (slots + N) ls (hg.2.2.2.2.1 M H H1 ci _ hc h1 ?_ z1 o1) h2 h3 (by omega) (by omega)
  exact (u_born ty0 C.2.2.2.1 hin hKn hkC e1 hty0).to hz
theorem ok_nwa (C : kx_C E p s m args meth c cc nL ws own) (hg : kx_good E cs nw Wd) (hw : Cond.arrayClass .int ∈ ws) (hd : decode cc pc = .ok (.newarray .int, 2)) : kx_ok (kx_G E Wd p e R s m args below meth c nL Q) Qr pc (t_nwa (pc + 2)) := by
  intro K hK bc bs L S M h H locs cells slots ls h1 h2 h3 h4 h5
  unfold t_nwa at h
  split at h
  · rename_i x S'
    obtain ⟨hx, hx2, hb1, hb2, h⟩ := h
    refine va_newaK (atype := .int) C.1 C.2.1 (C.2.2.2.1 _ hw) rfl hd rfl (Int32.not_lt.mpr hx) rfl (by show _ * 4 ≤ _; omega) (by omega) (by omega) rfl fun H1 cA e1 z1 o1 hAr hf => ?_
    have hcA : cA = kx_cA E 0 := Option.some.inj (hf.symm.trans (C.2.2.2.2.2.1.2 0 _ rfl).2)
    rw [hcA] at e1
    exact hK _ _ _ _ _ _ (h H.size (hg.2.2.2.2.2.1 M H h1)) H1 locs (cells + 1) (slots + x.toNatClampNeg) ls (hg.2.2.2.2.2.2.2.2.1 M H H1 _ h1 e1 z1 o1) h2 h3 (by omega) (by omega)
  · exact h.elim
theorem ok_ial (C : kx_C E p s m args meth c cc nL ws own) (hg : kx_good E cs nw Wd) (hd : decode cc pc = .ok (.iaload, 1)) : kx_ok (kx_G E Wd p e R s m args below meth c nL Q) Qr pc (t_ial (pc + 1)) := by
  intro K hK bc bs L S M h H locs cells slots ls h1 h2 h3 h4 h5
  unfold t_ial at h
  split at h
  · rename_i i v S'
    obtain ⟨a, ha, hka, hi, h⟩ := h
    subst ha
    have hlt : i.toNatClampNeg < ln M a := Nat.not_le.mp fun q => hi (Or.inr q)
    exact W.iald C.1 C.2.1 (hg.2.2.2.2.2.2.1 M H a h1 hka) ((C.2.2.2.2.2.1.2 0 _ rfl).1 _ _) (fun q => by cases q) (by rw [arrV_size]; exact hi) (arrV_read _ _ hlt) rfl rfl hd (hK _ _ _ _ _ _ h H locs cells slots ls h1 h2 h3 h4 h5)
  · exact h.elim
theorem ok_ias (C : kx_C E p s m args meth c cc nL ws own) (hg : kx_good E cs nw Wd) (hd : decode cc pc = .ok (.iastore, 1)) : kx_ok (kx_G E Wd p e R s m args below meth c nL Q) Qr pc (t_ias (pc + 1)) := by
  intro K hK bc bs L S M h H locs cells slots ls h1 h2 h3 h4 h5
  unfold t_ias at h
  split at h
  · rename_i x i v S'
    obtain ⟨a, ha, hka, hi, h⟩ := h
    subst ha
    refine W.iast C.1 C.2.1 (hg.2.2.2.2.2.2.1 M H a h1 hka) ((C.2.2.2.2.2.1.2 0 _ rfl).1 _ _) (fun q => by cases q) (by rw [arrV_size]; exact hi) rfl rfl hd fun H1 e z oq => ?_
    have hba := hg.2.1 M H a h1 (by rw [hka]; decide)
    refine hK _ _ _ _ _ _ h H1 _ cells slots ls (hg.2.2.2.2.2.2.2.1 M H H1 a _ x h1 hka ?_ z oq) ?_ h3 h4 h5
    · rw [e, arrV_store]
      congr 2
      funext j
      show updV _ _ _ j = Value.int (u2 (aI M) a i.toNatClampNeg x a j)
      unfold updV u2
      by_cases hj : j = i.toNatClampNeg
      · simp [hj]
      · simp [hj]
    · intro q hq
      rcases List.mem_append.mp hq with hq | hq
      · exact h2 q hq
      · rw [List.mem_singleton.mp hq]
        exact hba
  · exact h.elim
theorem ok_aln (C : kx_C E p s m args meth c cc nL ws own) (hg : kx_good E cs nw Wd) (hd : decode cc pc = .ok (.arraylength, 1)) : kx_ok (kx_G E Wd p e R s m args below meth c nL Q) Qr pc (t_aln (pc + 1)) := by
  intro K hK bc bs L S M h H locs cells slots ls h1 h2 h3 h4 h5
  unfold t_aln at h
  split at h
  · obtain ⟨a, ha, hka, h⟩ := h
    subst ha
    exact W.alen C.1 C.2.1 (hg.2.2.2.2.2.2.1 M H a h1 hka) ((C.2.2.2.2.2.1.2 0 _ rfl).1 _ _) (by rw [arrV_size] <;> rfl) rfl rfl hd (hK _ _ _ _ _ _ h H locs cells slots ls h1 h2 h3 h4 h5)
  · exact h.elim
theorem ok_sln (C : kx_C E p s m args meth c cc nL ws own) (hg : kx_good E cs nw Wd) (hd : decode cc pc = .ok (.arraylength, 1)) : kx_ok (kx_G E Wd p e R s m args below meth c nL Q) Qr pc (t_sln E (pc + 1)) := by
  intro K hK bc bs L S M h H locs cells slots ls h1 h2 h3 h4 h5
  unfold t_sln at h
  split at h
  · obtain ⟨ha, h⟩ := h
    subst ha
    obtain ⟨-, -, -, -, -, -, -, -, k1, k2, k3, k4⟩ := C.2.2.2.2.2
    exact W.alen C.1 C.2.1 (hg.2.2.2.2.2.2.2.2.2 M H h1).1 k1 (by rw [k3] <;> rfl) rfl rfl hd (hK _ _ _ _ _ _ h H locs cells slots ls h1 h2 h3 h4 h5)
  · exact h.elim
theorem ok_sld (C : kx_C E p s m args meth c cc nL ws own) (hg : kx_good E cs nw Wd) (hd : decode cc pc = .ok (.iaload, 1)) : kx_ok (kx_G E Wd p e R s m args below meth c nL Q) Qr pc (t_sld E (pc + 1)) := by
  intro K hK bc bs L S M h H locs cells slots ls h1 h2 h3 h4 h5
  unfold t_sld at h
  split at h
  · rename_i i v S'
    obtain ⟨ha, hi, h⟩ := h
    subst ha
    obtain ⟨-, -, -, -, -, -, -, -, k1, k2, k3, k4⟩ := C.2.2.2.2.2
    have hlt : i.toNatClampNeg < kx_L E := Nat.not_le.mp fun q => hi (Or.inr q)
    exact W.iald C.1 C.2.1 (hg.2.2.2.2.2.2.2.2.2 M H h1).1 k1 k2 (by rw [k3]; exact hi) (k4.1 _ hlt) rfl rfl hd (hK _ _ _ _ _ _ h H locs cells slots ls h1 h2 h3 h4 h5)
  · exact h.elim
theorem ok_cst (C : kx_C E p s m args meth c cc nL ws own) {ci : Nat} {Cn : String} {T : u_T} {N index : Nat} (hg : kx_good E cs nw Wd) (hc : vwCl[ci]? = some (Cn, T, N)) (hcs : cs ci = true) (hl : Cond.classLink own index Cn ∈ ws) (hd : decode cc pc = .ok (.checkcast index, 3)) : kx_ok (kx_G E Wd p e R s m args below meth c nL Q) Qr pc (t_cst (pc + 3) (ci + 1)) := by
  intro K hK bc bs L S M h H locs cells slots ls h1 h2 h3 h4 h5
  unfold t_cst at h
  split at h
  · obtain ⟨o, ho, hk, h⟩ := h
    subst ho
    cases o with
    | none => exact lv_castN C.1 C.2.1 hd (hK _ _ _ _ _ _ h H locs cells slots ls h1 h2 h3 h4 h5)
    | some a =>
      obtain ⟨cell, q1, q2, q3, q4⟩ := hg.1 M H a ci _ hcs hc h1 (hk a rfl)
      have hKn := C.2.2.2.2.2.1.1 ci _ hc
      exact va_castS C.1 C.2.1 C.2.2.2.2.1 (C.2.2.2.1 _ hl) hKn.2 ⟨cell, q1, by rw [q3]; rfl, by rw [q2]; exact hKn.2.1⟩ hd (hK _ _ _ _ _ _ h H locs cells slots ls h1 h2 h3 h4 h5)
  · exact h.elim
end KXM

