theorem vwCl_lt {ci : Nat} {r : vw_C} (h : vwCl[ci]? = some r) : ci < 11 := (List.getElem?_eq_some_iff.mp h).1
theorem kx_fv_sI_ne {M : kx_M} {i a b ci k : Nat} {x : Int32} (h : b ≠ a) : kx_fv (sI M i a x) ci k b = kx_fv M ci k b := by
  unfold kx_fv
  have e1 : fI (sI M i a x) (20 * ci + k) b = fI M (20 * ci + k) b := by
    show u2 (fI M) _ _ x _ _ = _
    unfold u2
    rw [if_neg (fun z => h z.2)]
  rw [e1]; rfl
theorem kx_fv_sR_ne {M : kx_M} {i a b ci k : Nat} {x : Option Nat} (h : b ≠ a) : kx_fv (sR M i a x) ci k b = kx_fv M ci k b := by
  unfold kx_fv
  have e1 : fR (sR M i a x) (20 * ci + k) b = fR M (20 * ci + k) b := by
    show u2 (fR M) _ _ x _ _ = _
    unfold u2
    rw [if_neg (fun z => h z.2)]
  rw [e1]; rfl
theorem kx_fv_sN_ne {M : kx_M} {a b ci k kv n : Nat} (h : b ≠ a) : kx_fv (sN M a kv n) ci k b = kx_fv M ci k b := by
  unfold kx_fv
  have e1 : fR (sN M a kv n) (20 * ci + k) b = fR M (20 * ci + k) b := if_neg h
  have e2 : fI (sN M a kv n) (20 * ci + k) b = fI M (20 * ci + k) b := if_neg h
  rw [e1, e2]
theorem kx_fv_sN {M : kx_M} {a ci k kv n : Nat} : kx_fv (sN M a kv n) ci k a = cond (kx_rf ci k) .null (.int 0) := by
  unfold kx_fv
  have e1 : fR (sN M a kv n) (20 * ci + k) a = none := if_pos rfl
  have e2 : fI (sN M a kv n) (20 * ci + k) a = 0 := if_pos rfl
  rw [e1, e2]; rfl
theorem kd_sN_ne {M : kx_M} {a b kv n : Nat} (h : b ≠ a) : kd (sN M a kv n) b = kd M b := if_neg h
theorem kd_sN {M : kx_M} {a kv n : Nat} : kd (sN M a kv n) a = kv := if_pos rfl
/-- one cell changed, at a -/
theorem kx_w1_set {E : kx_E} {M M1 : kx_M} {H H1 : Heap} {a : Nat} (h : kx_w1 E M H) (ha : kd M a ≠ 0) (hkd : kd M1 = kd M) (hfv : ∀ ci k b, b ≠ a → kx_fv M1 ci k b = kx_fv M ci k b) (hln : ln M1 = ln M) (hai : ∀ b, b ≠ a → aI M1 b = aI M b) (har : ∀ b, b ≠ a → aR M1 b = aR M b)
    (h0 : ∀ (ci : Nat) (r : vw_C), vwCl[ci]? = some r → kd M a = ci + 1 → t_OB a ((kx_D E).1 ci) r.2.2 ((kx_D E).2 ci) H1 (fun k => kx_fv M1 ci k a)) (h20 : kd M a = 20 → H1[a]? = some (arrV (kx_cA E 0) (ln M1 a) (fun j => .int (aI M1 a j)))) (h21 : kd M a = 21 → H1[a]? = some (arrV (kx_cA E 1) (ln M1 a) (fun j => va_rf (aR M1 a j))))
    (z : H1.size = H.size) (oq : ∀ q : Nat, q ≠ a → H1[q]? = H[q]?) : kx_w1 E M1 H1 := by
  obtain ⟨w1, w2, w3, w4, w5, w6, w7, w8, w9, w10, w11⟩ := h
  have hba := (w4 a ha).1
  refine ⟨fun b ci r hr hb => ?_, fun b hb => ?_, fun b hb => ?_, fun b hb => ?_, ?_, ?_, ?_, w8, w9, w10, by rw [z]; exact w11⟩
  · rw [hkd] at hb
    by_cases hba : b = a
    · subst hba; exact h0 ci r hr hb
    · exact ((w1 b ci r hr hb).kept (oq b hba)).to (fun k _ => (hfv ci k b hba).symm)
  · rw [hkd] at hb
    by_cases hba : b = a
    · subst hba; exact h20 hb
    · rw [oq b hba, w2 b hb, hln, hai b hba]
  · rw [hkd] at hb
    by_cases hba : b = a
    · subst hba; exact h21 hb
    · rw [oq b hba, w3 b hb, hln, har b hba]
  · rw [hkd] at hb
    rw [z]; exact w4 b hb
  · rw [oq _ (by omega)]; exact w5
  · rw [oq _ (by omega)]; exact w6
  · rw [oq _ (by omega)]; exact w7
/-- a cell more -/
theorem kx_w1_new {E : kx_E} {M : kx_M} {H H1 : Heap} {kv n : Nat} (h : kx_w1 E M H) (hkv : kv ≠ 0)
    (h0 : ∀ (ci : Nat) (r : vw_C), vwCl[ci]? = some r → kv = ci + 1 → t_OB H.size ((kx_D E).1 ci) r.2.2 ((kx_D E).2 ci) H1 (fun k => cond (kx_rf ci k) .null (.int 0))) (h20 : kv = 20 → H1[H.size]? = some (arrV (kx_cA E 0) n (fun _ => .int 0))) (h21 : kv = 21 → H1[H.size]? = some (arrV (kx_cA E 1) n (fun _ => .null)))
    (z : H1.size = H.size + 1) (oq : ∀ q : Nat, q < H.size → H1[q]? = H[q]?) : kx_w1 E (sN M H.size kv n) H1 := by
  obtain ⟨w1, w2, w3, w4, w5, w6, w7, w8, w9, w10, w11⟩ := h
  refine ⟨fun b ci r hr hb => ?_, fun b hb => ?_, fun b hb => ?_, fun b hb => ?_, ?_, ?_, ?_, w8, w9, w10, by omega⟩
  · by_cases hba : b = H.size
    · subst hba
      rw [kd_sN] at hb
      exact (h0 ci r hr hb).to (fun k _ => kx_fv_sN.symm)
    · rw [kd_sN_ne hba] at hb
      exact ((w1 b ci r hr hb).kept (oq b (w4 b (by omega)).2)).to (fun k _ => (kx_fv_sN_ne hba).symm)
  · by_cases hba : b = H.size
    · subst hba
      rw [kd_sN] at hb
      rw [h20 hb]
      have e1 : ln (sN M H.size kv n) H.size = n := if_pos rfl
      have e2 : aI (sN M H.size kv n) H.size = fun _ => 0 := funext fun j => if_pos rfl
      rw [e1, e2]
    · rw [kd_sN_ne hba] at hb
      have e1 : ln (sN M H.size kv n) b = ln M b := if_neg hba
      have e2 : aI (sN M H.size kv n) b = aI M b := funext fun j => if_neg hba
      rw [oq b (w4 b (by omega)).2, w2 b hb, e1, e2]
  · by_cases hba : b = H.size
    · subst hba
      rw [kd_sN] at hb
      rw [h21 hb]
      have e1 : ln (sN M H.size kv n) H.size = n := if_pos rfl
      have e2 : aR (sN M H.size kv n) H.size = fun _ => none := funext fun j => if_pos rfl
      rw [e1, e2]
      rfl
    · rw [kd_sN_ne hba] at hb
      have e1 : ln (sN M H.size kv n) b = ln M b := if_neg hba
      have e2 : aR (sN M H.size kv n) b = aR M b := funext fun j => if_neg hba
      rw [oq b (w4 b (by omega)).2, w3 b hb, e1, e2]
  · by_cases hba : b = H.size
    · subst hba; omega
    · rw [kd_sN_ne hba] at hb
      have := w4 b hb
      omega
  · rw [oq _ (by omega)]; exact w5
  · rw [oq _ (by omega)]; exact w6
  · rw [oq _ (by omega)]; exact w7
theorem kx_w1_fresh {E : kx_E} {M : kx_M} {H : Heap} (h : kx_w1 E M H) : kd M H.size = 0 := by
  cases hk : kd M H.size with
  | zero => rfl
  | succ n =>
    have := (h.2.2.2.1 H.size (by omega)).2
    omega
theorem kx_w1_good (E : kx_E) : kx_good E (fun _ => true) (fun ci => ci + 1) (kx_w1 E) := by
  refine ⟨fun M H a ci r _ hr h hk => h.1 a ci r hr hk, fun M H a h hk => (h.2.2.2.1 a hk).1, fun M H H1 a ci k r x _ hr h hk _ _ ht z oq => ?_, fun M H H1 a ci k r x _ hr h hk _ _ ht z oq => ?_, fun M H H1 ci r hr h ht z oq => ?_, fun M H h => kx_w1_fresh h, fun M H a h hk => h.2.1 a hk, fun M H H1 a i x h hk ht z oq => ?_, fun M H H1 n h ht z oq => ?_, fun M H h => ⟨h.2.2.2.2.2.2.1, h.2.2.2.2.2.1, h.2.2.2.2.1, h.2.2.2.2.2.2.2.2.2.2⟩⟩
  · have hlt := vwCl_lt hr
    refine kx_w1_set h (a := a) (by omega) rfl (fun ci' k' b hb => kx_fv_sI_ne hb) rfl (fun _ _ => rfl) (fun _ _ => rfl) (fun ci' r' hr' hk' => ?_) (fun z => by omega) (fun z => by omega) z oq
    have : ci' = ci := by omega
    subst this
    cases hr.symm.trans hr'
    exact ht
  · have hlt := vwCl_lt hr
    refine kx_w1_set h (a := a) (by omega) rfl (fun ci' k' b hb => kx_fv_sR_ne hb) rfl (fun _ _ => rfl) (fun _ _ => rfl) (fun ci' r' hr' hk' => ?_) (fun z => by omega) (fun z => by omega) z oq
    have : ci' = ci := by omega
    subst this
    cases hr.symm.trans hr'
    exact ht
  · have hlt := vwCl_lt hr
    refine kx_w1_new h (kv := ci + 1) (by omega) (fun ci' r' hr' hk' => ?_) (fun z => by omega) (fun z => by omega) z oq
    have : ci' = ci := by omega
    subst this
    cases hr.symm.trans hr'
    exact ht
  · refine kx_w1_set h (a := a) (by omega) rfl (fun ci' k' b hb => rfl) rfl (fun b hb => funext fun j => if_neg (fun z => hb z.1)) (fun _ _ => rfl) (fun ci' r' hr' hk' => ?_) (fun _ => ht) (fun z => by omega) z oq
    have hlt := vwCl_lt hr'
    omega
  · refine kx_w1_new h (kv := 20) (by omega) (fun ci' r' hr' hk' => ?_) (fun _ => ht) (fun z => by omega) z oq
    have hlt := vwCl_lt hr'
    omega
theorem kx_w1_rcv (E : kx_E) : kx_rcv E (kx_w1 E) := fun M H a ci r hr h hk => by
  obtain ⟨cell, q1, q2, q3, -⟩ := h.1 a ci r hr hk
  exact ⟨cell, q1, q2, q3⟩
/-! the lower level's own: arrays of references -/
def t_qal (n : Nat) : kx_T := fun K _ bc bs L S M => match S with
  | .int i :: v :: S => ∃ a : Nat, v = .ref a ∧ kd M a = 21 ∧ vp_in i (ln M a) ∧ K bc bs n L (va_rf (aR M a i.toNatClampNeg) :: S) M
  | _ => False
def t_qas (n : Nat) : kx_T := fun K _ bc bs L S M => match S with
  | w :: .int i :: v :: S => ∃ (o : Option Nat) (a : Nat), w = va_rf o ∧ v = .ref a ∧ kd M a = 21 ∧ vp_in i (ln M a) ∧ (∀ b, o = some b → 1 ≤ kd M b ∧ kd M b ≤ 11) ∧ K bc bs n L S (sQ M a i.toNatClampNeg o)
  | _ => False
def t_qln (E : kx_E) (n : Nat) : kx_T := fun K _ bc bs L S M => match S with
  | v :: S => ∃ a : Nat, v = .ref a ∧ ((kd M a = 21 ∧ K bc bs n L (.int (Int32.ofNat (ln M a)) :: S) M) ∨ (a = kx_e0 E ∧ K bc bs n L (.int 0 :: S) M))
  | _ => False
def t_nwq (E : kx_E) (n : Nat) : kx_T := fun K _ bc bs L S M => match S with
  | .int x :: S => 0 ≤ x ∧ x.toNatClampNeg ≤ 100000 ∧ 1 ≤ bc ∧ x.toNatClampNeg ≤ bs ∧ ∀ a : Nat, (kd M a = 0 ∧ a ≠ kx_e0 E) → K (bc - 1) (bs - x.toNatClampNeg) n L (.ref a :: S) (sN M a 21 x.toNatClampNeg)
  | _ => False
def t_gcl (E : kx_E) (n : Nat) : kx_T := fun K _ bc bs L S M => match S with
  | v :: S => ∃ a : Nat, v = .ref a ∧ kd M a = 21 ∧ kx_sum S ≤ 8 ∧ K bc bs n L (.ref (kx_mi E) :: S) M
  | _ => False
/-- the copied array's contents -/
def kx_cp (M : kx_M) (a0 a : Nat) (sp dp n : Nat) : kx_M := (kd M, ln M, fI M, fR M, aI M, mL M, fun b j => if b = a ∧ dp ≤ j ∧ j < dp + n then aR M a0 (sp + (j - dp)) else aR M b j)
def t_acp (E : kx_E) (n : Nat) : kx_T := fun K _ bc bs L S M => match S with
  | .int k :: .int dp :: v :: .int sp :: w :: S => ∃ a0 : Nat, w = .ref a0 ∧ ∃ a : Nat, v = .ref a ∧ kx_sum S ≤ 8 ∧ kd M a0 = 21 ∧ kd M a = 21 ∧ 0 ≤ sp ∧ 0 ≤ dp ∧ 0 ≤ k ∧ sp.toNatClampNeg + k.toNatClampNeg ≤ ln M a0 ∧ dp.toNatClampNeg + k.toNatClampNeg ≤ ln M a ∧ (∀ i b, i < k.toNatClampNeg → aR M a0 (sp.toNatClampNeg + i) = some b → 1 ≤ kd M b ∧ kd M b ≤ 11) ∧ K bc bs n L S (kx_cp M a0 a sp.toNatClampNeg dp.toNatClampNeg k.toNatClampNeg)
  | _ => False
section KXL
variable {E : kx_E} {p : Program} {e : Env} {R : Room} {s : State} {m : MethodId} {args : Array Value} {below : List Frame} {meth : Method} {c : Code} {nL : Nat} {Q : State → Prop} {cc : ByteArray} {ws : List Cond} {own : String} {Qr : kx_Q} {pc : Nat}
theorem ok_qal (C : kx_C E p s m args meth c cc nL ws own) (hd : decode cc pc = .ok (.aaload, 1)) : kx_ok (kx_G E (kx_w1 E) p e R s m args below meth c nL Q) Qr pc (t_qal (pc + 1)) := by
  intro K hK bc bs L S M h H locs cells slots ls h1 h2 h3 h4 h5
  unfold t_qal at h
  split at h
  · rename_i i v S'
    obtain ⟨a, ha, hka, hi, h⟩ := h
    subst ha
    refine va_aldq (D := kx_D E) (cl := vwCl) (tys := [(kx_cA E 0, .int), (kx_cA E 1, .object "java/lang/Object")]) (ws := [(a, .inl (kx_cA E 1, ln M a, .inr (.inr (.inr (.inr (aR M a))))))]) C.1 C.2.1 C.2.2.2.2.2.1 (fun k q hq => ?_) 0 1 rfl rfl hi hd (hK _ _ _ _ _ _ h H locs cells slots ls h1 h2 h3 h4 h5)
    have hz : k < 1 := (List.getElem?_eq_some_iff.mp hq).1
    rw [show k = 0 by omega] at hq
    cases hq
    exact h1.2.2.1 a hka
  · exact h.elim
theorem ok_qas (C : kx_C E p s m args meth c cc nL ws own) (hd : decode cc pc = .ok (.aastore, 1)) : kx_ok (kx_G E (kx_w1 E) p e R s m args below meth c nL Q) Qr pc (t_qas (pc + 1)) := by
  intro K hK bc bs L S M h H locs cells slots ls h1 h2 h3 h4 h5
  unfold t_qas at h
  split at h
  · rename_i w i v S'
    obtain ⟨o, a, ho, ha, hka, hi, hel, h⟩ := h
    subst ho; subst ha
    have hlt : i.toNatClampNeg < ln M a := Nat.not_le.mp fun q => hi (Or.inr q)
    have h0 : ¬ i < 0 := fun q => hi (Or.inl q)
    have hcell := h1.2.2.1 a hka
    have hba := (h1.2.2.2.1 a (by omega)).1
    have fin : ∀ H1 : Heap, H1[a]? = some ((arrV (kx_cA E 1) (ln M a) (fun j => va_rf (aR M a j))).setSlot i.toNatClampNeg (va_rf o)) → H1.size = H.size → (∀ q, q ≠ a → H1[q]? = H[q]?) → W p (kx_l E) e R s m args below meth c H1 (locs ++ [⟨a, i.toNatClampNeg⟩]) cells slots Q (F0 m (pc + 1) ls S') := by
      intro H1 e1 z oq
      refine hK _ _ _ _ _ _ h H1 _ cells slots ls (kx_w1_set h1 (a := a) (by omega) rfl (fun _ _ _ _ => rfl) rfl (fun _ _ => rfl) (fun b hb => funext fun j => if_neg (fun z => hb z.1)) (fun ci r hr hk => ?_) (fun z => by omega) (fun _ => ?_) z oq) ?_ h3 h4 h5
      · have := vwCl_lt hr
        omega
      · rw [e1, arrV_store]
        congr 2
        funext j
        show updV _ _ _ j = va_rf (u2 (aR M) a i.toNatClampNeg o a j)
        unfold updV u2
        by_cases hj : j = i.toNatClampNeg
        · simp [hj]
        · simp [hj]
      · intro q hq
        rcases List.mem_append.mp hq with hq | hq
        · exact h2 q hq
        · rw [List.mem_singleton.mp hq]
          exact hba
    obtain ⟨hAr, kA, comp, k1, k2, k3, -⟩ := C.2.2.2.2.2.1.2 1 _ rfl
    cases o with
    | none => exact va_WaastN (C := "java/lang/Object") C.1 C.2.1 hcell (hAr _ _) (fun h => by cases h) (by rw [arrV_size]; exact hi) rfl rfl hd fin
    | some b =>
      obtain ⟨hb1, hb2⟩ := hel b rfl
      obtain ⟨ci, hci⟩ : ∃ ci, kd M b = ci + 1 := ⟨kd M b - 1, by omega⟩
      have hl : ci < vwCl.length := by show ci < 11; omega
      obtain ⟨cell, q1, q2, q3, -⟩ := h1.1 b ci vwCl[ci] (List.getElem?_eq_getElem hl) hci
      have hcl := (C.2.2.2.2.2.1.1 ci _ (List.getElem?_eq_getElem hl)).2
      obtain ⟨kC, hkC, -⟩ := hcl.2
      obtain ⟨kE, hkE, -⟩ := Vm.findClass_spec k3
      obtain ⟨-, -, -, -, -, -, -, -, -, -, -, -, hasg, -⟩ := C.2.2.2.2.2
      exact W.aast C.1 C.2.1 hcell (fun q h => by cases h) (fun h => by cases h) k1 k2 rfl hkE ⟨h0, by rw [arrV_size]; exact hlt⟩ q1 (fun q h => by rw [q3] at h; cases h) (by rw [q2]; exact hkC) (by rw [q2]; exact hasg ci _ comp (List.getElem?_eq_getElem hl) k3) rfl rfl hd fin
  · exact h.elim
theorem ok_qln (C : kx_C E p s m args meth c cc nL ws own) (hd : decode cc pc = .ok (.arraylength, 1)) : kx_ok (kx_G E (kx_w1 E) p e R s m args below meth c nL Q) Qr pc (t_qln E (pc + 1)) := by
  intro K hK bc bs L S M h H locs cells slots ls h1 h2 h3 h4 h5
  unfold t_qln at h
  split at h
  · obtain ⟨a, ha, h⟩ := h
    subst ha
    rcases h with ⟨hka, h⟩ | ⟨hka, h⟩
    · exact W.alen C.1 C.2.1 (h1.2.2.1 a hka) ((C.2.2.2.2.2.1.2 1 _ rfl).1 _ _) (by rw [arrV_size] <;> rfl) rfl rfl hd (hK _ _ _ _ _ _ h H locs cells slots ls h1 h2 h3 h4 h5)
    · subst hka
      obtain ⟨-, -, -, -, -, -, k1, k2, -⟩ := C.2.2.2.2.2
      exact W.alen C.1 C.2.1 h1.2.2.2.2.2.1 k1 (by rw [k2] <;> rfl) rfl rfl hd (hK _ _ _ _ _ _ h H locs cells slots ls h1 h2 h3 h4 h5)
  · exact h.elim
theorem ok_nwq (C : kx_C E p s m args meth c cc nL ws own) {index : Nat} (hl : Cond.classLink own index "java/lang/Object" ∈ ws) (hd : decode cc pc = .ok (.anewarray index, 3)) : kx_ok (kx_G E (kx_w1 E) p e R s m args below meth c nL Q) Qr pc (t_nwq E (pc + 3)) := by
  intro K hK bc bs L S M h H locs cells slots ls h1 h2 h3 h4 h5
  unfold t_nwq at h
  split at h
  · rename_i x S'
    obtain ⟨hx, hx2, hb1, hb2, h⟩ := h
    obtain ⟨-, kA0, comp0, k1, k2, k3, k4⟩ := C.2.2.2.2.2.1.2 1 _ rfl
    refine W.anew C.1 C.2.1 C.2.2.2.2.1 (C.2.2.2.1 _ hl) (va_AO.use C.2.2.2.2.2.2.2.2.1) rfl hd rfl (Int32.not_lt.mpr hx) (by omega) (by omega) (by omega) fun cA kA comp f1 f2 f3 f4 => ?_
    have hcA : cA = kx_cA E 1 := Option.some.inj (f1.symm.trans k4)
    rw [hcA]
    refine hK _ _ _ _ _ _ (h H.size ⟨kx_w1_fresh h1, by have w9 := h1.2.2.2.2.2.2.2.2.1; have w11 := h1.2.2.2.2.2.2.2.2.2.2; omega⟩) _ locs (cells + 1) (slots + x.toNatClampNeg) ls (kx_w1_new h1 (by decide) (fun ci r hr hk => ?_) (fun z => by cases z) (fun _ => ?_) (by simp) (fun q hq => ?_)) h2 h3 (by omega) (by omega)
    · have := vwCl_lt hr
      omega
    · rw [← arrV_new]; simp
    · rw [Array.getElem?_push, if_neg (Nat.ne_of_lt hq)]
  · exact h.elim
theorem ok_gst (C : kx_C E p s m args meth c cc nL ws own) {index : Nat} (hl : Cond.fieldLink own index "java/util/ArrayList" "DEFAULTCAPACITY_EMPTY_ELEMENTDATA" "[Ljava/lang/Object;" ∈ ws) (hd : decode cc pc = .ok (.getstatic index, 3)) : kx_ok (kx_G E (kx_w1 E) p e R s m args below meth c nL Q) Qr pc (t_push (pc + 3) (.ref (kx_e0 E))) := by
  intro K hK bc bs L S M h H locs cells slots ls h1 h2 h3 h4 h5
  obtain ⟨-, -, -, -, ⟨cf, kf, fi, f, g1, g2, g3, g4, g5⟩, k6, -⟩ := C.2.2.2.2.2
  exact W.gets C.1 C.2.1 C.2.2.2.2.1 (C.2.2.2.1 _ hl) g1 g2 g3 g4 h1.2.2.2.2.1 (fun h => by rw [h] at k6; cases k6) g5 rfl hd (hK _ _ _ _ _ _ h H locs cells slots ls h1 h2 h3 h4 h5)
theorem ok_ldm (C : kx_C E p s m args meth c cc nL ws own) {index : Nat} (hl : Cond.classLink own index "[Ljava/lang/Object;" ∈ ws) (hd : decode cc pc = .ok (.ldc index, 2)) : kx_ok (kx_G E (kx_w1 E) p e R s m args below meth c nL Q) Qr pc (t_push (pc + 2) (.ref (kx_mi E))) := by
  intro K hK bc bs L S M h H locs cells slots ls h1 h2 h3 h4 h5
  exact va_ldcM C.1 C.2.1 C.2.2.2.2.1 (C.2.2.2.1 _ hl) C.2.2.2.2.2.2.1 hd (hK _ _ _ _ _ _ h H locs cells slots ls h1 h2 h3 h4 h5)
/-- getClass() of an Object[] -/
theorem ok_gcl (C : kx_C E p s m args meth c cc nL ws own) {index : Nat} (hl : Cond.methodLink own index ⟨"java/lang/Object", "getClass", "()Ljava/lang/Class;"⟩ ∈ ws) (hsel : Cond.selects "[Ljava/lang/Object;" ⟨"java/lang/Object", "getClass", "()Ljava/lang/Class;"⟩ ⟨"java/lang/Object", "getClass", "()Ljava/lang/Class;"⟩ ∈ ws) (hin : Cond.instanceMethod ⟨"java/lang/Object", "getClass", "()Ljava/lang/Class;"⟩ ∈ ws) (hna : Cond.native ⟨"java/lang/Object", "getClass", "()Ljava/lang/Class;"⟩ ∈ ws) (hR : 1 ≤ R.frames ∧ 22 ≤ R.locals) (hd : decode cc pc = .ok (.invokevirtual index, 3)) : kx_ok (kx_G E (kx_w1 E) p e R s m args below meth c nL Q) Qr pc (t_gcl E (pc + 3)) := by
  intro K hK bc bs L S M h H locs cells slots ls h1 h2 h3 h4 h5
  unfold t_gcl at h
  split at h
  · obtain ⟨a, ha, hka, hs, h⟩ := h
    subst ha
    unfold kx_sum at hs
    obtain ⟨-, kA0, comp0, k1, k2, k3, k4⟩ := C.2.2.2.2.2.1.2 1 _ rfl
    exact va_getC C.1 C.2.1 (C.2.2.1.trans h3.1.symm) C.2.2.2.2.1 (C.2.2.2.1 _ hl) (va_Dc.use C.2.2.2.2.2.2.2.1) (C.2.2.2.1 _ hsel) (C.2.2.2.1 _ hin) (C.2.2.2.1 _ hna) C.2.2.2.2.2.2.1 ⟨_, h1.2.2.1 a hka, rfl, k4⟩ hR.1 (by omega) hd (hK _ _ _ _ _ _ h H locs cells slots ls h1 h2 h3 h4 h5)
  · exact h.elim
theorem ok_acp (C : kx_C E p s m args meth c cc nL ws own) {index : Nat} (hl : Cond.methodLink own index arraycopyName ∈ ws) (hna : Cond.native arraycopyName ∈ ws) (hst : Cond.static arraycopyName ∈ ws) (hini : Cond.initialized "java/lang/System" ∈ ws) (hR : 1 ≤ R.frames ∧ 8 + (nativeFrameWords "java/lang/System" "arraycopy" 5 + 11) ≤ R.locals) (hd : decode cc pc = .ok (.invokestatic index, 3)) : kx_ok (kx_G E (kx_w1 E) p e R s m args below meth c nL Q) Qr pc (t_acp E (pc + 3)) := by
  intro K hK bc bs L S M h H locs cells slots ls h1 h2 h3 h4 h5
  unfold t_acp at h
  split at h
  · rename_i n dp v sp w S'
    obtain ⟨a0, ha0, a, ha, hs, hk0, hk1, p1, p2, p3, p4, p5, hel, h⟩ := h
    subst ha0; subst ha
    unfold kx_sum at hs
    have nn : ∀ z : Int32, 0 ≤ z → z.toInt = (z.toNatClampNeg : Int) := by
      intro z hz
      have hz0 : (0 : Int) ≤ z.toInt := by simpa using Int32.le_iff_toInt_le.mp hz
      show z.toInt = ((z.toInt.toNat : Nat) : Int)
      omega
    have hc0 := h1.2.2.1 a0 hk0
    have hc1 := h1.2.2.1 a hk1
    obtain ⟨hAr, kA, comp, r1, r2, r3, -⟩ := C.2.2.2.2.2.1.2 1 _ rfl
    obtain ⟨-, -, -, -, -, -, -, -, -, -, -, -, hasg, -⟩ := C.2.2.2.2.2
    have hcls := C.2.2.2.2.2.1.1
    have hba := (h1.2.2.2.1 a (by omega)).1
    intro T hT X
    obtain ⟨vm', X', step⟩ := X.arraycopy C.1 C.2.2.2.2.1 (C.2.2.2.1 _ hl) (C.2.2.2.1 _ hna) (C.2.2.2.1 _ hst) (C.2.2.2.1 _ hini) (src := a0) (dst := a) (cs := arrV (kx_cA E 1) (ln M a0) (fun j => va_rf (aR M a0 j))) (cd := arrV (kx_cA E 1) (ln M a) (fun j => va_rf (aR M a j))) (srcPos := sp) (destPos := dp) (n := n) (by rw [hT]; exact hc0) (by rw [hT]; exact hc1)
      (fun _ h => by cases h) (fun _ h => by cases h) (fun h => by cases h) (fun h => by cases h) r1 r1 r2 r2 rfl (Int32.not_lt.mpr p1) (Int32.not_lt.mpr p2) (Int32.not_lt.mpr p3)
      (by rw [nn sp p1, nn n p3, arrV_size]; omega)
      (by rw [nn dp p2, nn n p3, arrV_size]; omega)
      (fun vm₁ hal i hi => by
        have e : (arrV (kx_cA E 1) (ln M a0) (fun j => va_rf (aR M a0 j))).slots.getD (sp.toNatClampNeg + i) .null = va_rf (aR M a0 (sp.toNatClampNeg + i)) := by
          rw [Array.getD_eq_getD_getElem?, arrV_read _ _ (by omega)]
          rfl
        rw [e]
        cases hy : aR M a0 (sp.toNatClampNeg + i) with
        | none => exact ⟨rfl, trivial⟩
        | some y =>
          obtain ⟨hb1, hb2⟩ := hel i y hi hy
          obtain ⟨ci, hci⟩ : ∃ ci, kd M y = ci + 1 := ⟨kd M y - 1, by omega⟩
          have hlc : ci < vwCl.length := by show ci < 11; omega
          obtain ⟨cell, q1, q2, q3, -⟩ := h1.1 y ci vwCl[ci] (List.getElem?_eq_getElem hlc) hci
          obtain ⟨kC, hkC, -⟩ := (hcls ci _ (List.getElem?_eq_getElem hlc)).2.2
          obtain ⟨kE, hkE, -⟩ := Vm.findClass_spec r3
          obtain ⟨kC', hkC', -⟩ := hal.2.2 _ _ hkC
          obtain ⟨kE', hkE', -⟩ := hal.2.2 _ _ hkE
          refine ⟨rfl, cell, (show T.heap[y]? = some cell by rw [hT]; exact q1), (fun q h => by rw [q3] at h; cases h), ⟨kC', by rw [q2]; exact hkC'⟩, ⟨kE', hkE'⟩, ?_⟩
          show vm₁.assignable _ _ = true
          rw [hal.assignable, q2]
          exact hasg ci _ comp (List.getElem?_eq_getElem hlc) r3)
      (g := F0 m pc ls (.int n :: .int dp :: .ref a :: .int sp :: .ref a0 :: S')) rfl (h3.1.trans C.2.2.1.symm) (rest := S') rfl (by rw [C.2.1]; exact hd) hR.1 (by show 2 * 0 + _ + _ ≤ _; omega)
    have e1 : copied (arrV (kx_cA E 1) (ln M a0) (fun j => va_rf (aR M a0 j))) (arrV (kx_cA E 1) (ln M a) (fun j => va_rf (aR M a j))) sp dp n = arrV (kx_cA E 1) (ln M a) (fun j => va_rf (va_cpy (aR M a0) (aR M a) sp.toNatClampNeg dp.toNatClampNeg n.toNatClampNeg j)) := va_copied (fun z => va_rf z) _ _ (aR M a0) (aR M a) p4
    rw [e1] at X' step
    have hla : a < H.size := (Array.getElem?_eq_some_iff.mp hc1).1
    generalize hcell : arrV (kx_cA E 1) (ln M a) (fun j => va_rf (va_cpy (aR M a0) (aR M a) sp.toNatClampNeg dp.toNatClampNeg n.toNatClampNeg j)) = cell at X' step
    have hheap : ((T.setVm vm').setCell a cell).heap = H.setIfInBounds a cell := by rw [← hT]; rfl
    have oq : ∀ q : Nat, q ≠ a → (H.setIfInBounds a cell)[q]? = H[q]? := fun q hq => by simp [Array.getElem?_setIfInBounds, Ne.symm hq]
    have oa : (H.setIfInBounds a cell)[a]? = some cell := by simp [Array.getElem?_setIfInBounds, hla]
    have hnew : (H.setIfInBounds a cell)[a]? = some (arrV (kx_cA E 1) (ln M a) (fun j => va_rf (aR (kx_cp M a0 a sp.toNatClampNeg dp.toNatClampNeg n.toNatClampNeg) a j))) := by
      rw [oa, ← hcell]
      congr 2
      funext j
      congr 1
      show _ = (if a = a ∧ dp.toNatClampNeg ≤ j ∧ j < dp.toNatClampNeg + n.toNatClampNeg then aR M a0 (sp.toNatClampNeg + (j - dp.toNatClampNeg)) else aR M a j)
      simp only [true_and]
      rfl
    have hw : kx_w1 E (kx_cp M a0 a sp.toNatClampNeg dp.toNatClampNeg n.toNatClampNeg) (H.setIfInBounds a cell) :=
      kx_w1_set h1 (a := a) (by omega) rfl (fun _ _ _ _ => rfl) rfl (fun _ _ => rfl) (fun b hb => funext fun j => if_neg (fun z => hb z.1)) (fun ci r hr hk => by have := vwCl_lt hr; omega) (fun z => by omega) (fun _ => hnew) (by simp) oq
    obtain ⟨t, a1, b1⟩ := hK _ _ _ _ _ _ h (H.setIfInBounds a cell) _ cells slots ls hw (fun q hq => by
      rcases List.mem_append.mp hq with h | h
      · exact h2 q h
      · obtain ⟨z, -, hz⟩ := List.mem_map.mp h
        rw [← hz]
        exact hba) h3 h4 h5 _ hheap X'
    exact ⟨t, step t a1, b1⟩
  · exact h.elim
end KXL
