/-- a method's contract: from any heap that holds M it returns; the answer and the memory behind it are as Q asks; k cells of ks slots at most are made -/
def kx_CT (E : kx_E) (Wd : kx_M → Heap → Prop) (y : MethodName) (ws : List Cond) (fr lo : Nat) (av : List Value) (M : kx_M) (k ks : Nat) (Q : kx_Q) : Prop :=
  Met (kx_l E) y ws { frames := fr, cells := k, slots := ks, locals := lo } (fun a U => a = av.toArray ∧ Wd M U.heap ∧ kx_kn E U) (fun _ _ o t => ∃ (v : Option Value) (M1 : kx_M), o = .returned v ∧ Wd M1 t.heap ∧ Q v M1) k ks (fun q => kx_ba E ≤ q)
theorem kx_CT.mono {E : kx_E} {Wd : kx_M → Heap → Prop} {y : MethodName} {ws : List Cond} {fr lo : Nat} {av : List Value} {M : kx_M} {k ks : Nat} {Q Q' : kx_Q} (h : kx_CT E Wd y ws fr lo av M k ks Q) (hq : ∀ v M1, Q v M1 → Q' v M1) : kx_CT E Wd y ws fr lo av M k ks Q' := by
  intro p e h1 h2 h3 s m args below h4 h5 h6 h7
  obtain ⟨n, o, g1, g2, g3, ⟨v, M1, g4, g5, g6⟩, g7⟩ := h p e h1 h2 h3 s m args below h4 h5 h6 h7
  exact ⟨n, o, g1, g2, g3, ⟨v, M1, g4, g5, hq v M1 g6⟩, g7⟩
/-- the words' part of a call -/
def kx_sum (S : List Value) : Nat := (S.map fun v => v.category).sum
/-- by cases of an int -/
def sw_to0 (K : Nat → Prop) (x : Int32) : List (Int32 × Nat) → Nat → Prop
  | [], d => K d
  | q :: l, d => (x = q.1 → K q.2) ∧ (x ≠ q.1 → sw_to0 K x l d)
def sw_sel : List (Int32 × Nat) → Nat → Int32 → Nat
  | [], d, _ => d
  | q :: l, d, x => if x = q.1 then q.2 else sw_sel l d x
theorem sw_to {K : Nat → Prop} {x : Int32} {l : List (Int32 × Nat)} {d : Nat} (h : sw_to0 K x l d) : K (sw_sel l d x) := by
  induction l with
  | nil => exact h
  | cons q l ih =>
    unfold sw_sel
    by_cases hx : x = q.1
    · rw [if_pos hx]; exact h.1 hx
    · rw [if_neg hx]; exact ih (h.2 hx)
theorem sw_out {x : Int32} {l : List (Int32 × Nat)} {d : Nat} (h : ∀ q ∈ l, x ≠ q.1) : sw_sel l d x = d := by
  induction l with
  | nil => rfl
  | cons q l ih =>
    unfold sw_sel
    rw [if_neg (h q List.mem_cons_self)]
    exact ih (fun q hq => h q (List.mem_cons_of_mem _ hq))
def t_sw (tbl : List (Int32 × Nat)) (d : Nat) : kx_T := fun K _ bc bs L S M => match S with
  | .int x :: S => sw_to0 (fun n => K bc bs n L S M) x tbl d
  | _ => False
def t_oin (n : Nat) : kx_T := fun K _ bc bs L S M => match S with
  | [v] => ∃ a : Nat, v = .ref a ∧ K bc bs n L [] M
  | _ => False
def t_mm (n : Nat) (f : Int32 → Int32 → Int32) : kx_T := fun K _ bc bs L S M => match S with
  | .int y :: .int x :: S => kx_sum S ≤ 8 ∧ K bc bs n L (.int (f x y) :: S) M
  | _ => False
/-- a call of a method that has a contract: cnt arguments off the stack (the receiver among them); kv: the receiver's kind, 0 where none is asked -/
def t_call (CT : List Value → kx_M → Nat → Nat → kx_Q → Prop) (n cnt kv : Nat) : kx_T := fun K _ bc bs L S M =>
  cnt ≤ S.length ∧ kx_sum (S.drop cnt) ≤ 8 ∧ (kv = 0 ∨ ∃ a : Nat, S[cnt - 1]? = some (.ref a) ∧ kd M a = kv) ∧ ∃ k ks : Nat, k ≤ bc ∧ ks ≤ bs ∧ CT (S.take cnt).reverse M k ks (fun v M1 => K (bc - k) (bs - ks) n L (v.toList ++ S.drop cnt) M1)
/-- a call whose outcome is a function: condition, answer, memory -/
def t_fun (f : List Value → kx_M → Prop × List Value × kx_M) (k ks n cnt : Nat) : kx_T := fun K _ bc bs L S M =>
  cnt ≤ S.length ∧ kx_sum (S.drop cnt) ≤ 8 ∧ k ≤ bc ∧ ks ≤ bs ∧ (f (S.take cnt).reverse M).1 ∧ K (bc - k) (bs - ks) n L ((f (S.take cnt).reverse M).2.1 ++ S.drop cnt) (f (S.take cnt).reverse M).2.2
theorem lv_room0 {m : MethodId} {pc : Nat} {ls : Array Slot} {st rest : List Value} (h : kx_sum st ≤ 8) : 2 * (F0 m pc ls rest).monitorRoom + (st.map fun v => v.category).sum ≤ 8 := by
  show 2 * 0 + _ ≤ 8
  have h' : (st.map fun v => v.category).sum ≤ 8 := h
  omega
section KXC
variable {E : kx_E} {cs : Nat → Bool} {nw : Nat → Nat} {Wd : kx_M → Heap → Prop} {p : Program} {e : Env} {R : Room} {s : State} {m : MethodId} {args : Array Value} {below : List Frame} {meth : Method} {c : Code} {nL : Nat} {Q : State → Prop} {cc : ByteArray} {ws : List Cond} {own : String} {Qr : kx_Q} {pc : Nat}
theorem kx_blind {av : List Value} {M : kx_M} : FrameBlind (fun (a : Array Value) (U : State) => a = av.toArray ∧ Wd M U.heap ∧ kx_kn E U) := fun _ _ _ _ q => ⟨q.1, q.2.1, q.2.2.call⟩
/-- behind a call -/
theorem kx_back {H : Heap} {locs : List Loc} {cells slots mc ms bc bs : Nat} {ls : Array Slot} {L : List (Nat × Value)} {st0 rest : List Value} {Q' : kx_Q} {K : kx_K}
    (hq : ∀ v M1, Q' v M1 → K (bc - mc) (bs - ms) (pc + 3) L (v.toList ++ rest) M1)
    (hK : ∀ bc bs pc L S M, K bc bs pc L S M → kx_G E Wd p e R s m args below meth c nL Q bc bs pc L S M) (h2 : ∀ q ∈ locs, kx_ba E ≤ q.base) (h3 : lv_has ls nL L) (h4 : cells + bc ≤ R.cells) (h5 : slots + bs ≤ R.slots) (hm : mc ≤ bc) (hs : ms ≤ bs)
    (hr : va_Run p (kx_l E) e R s m args below meth c H locs cells slots mc ms (F0 m pc ls st0) rest (fun (_ : State) (o : Outcome) (t : State) => ∃ (v : Option Value) (M1 : kx_M), o = .returned v ∧ Wd M1 t.heap ∧ Q' v M1) (fun q => kx_ba E ≤ q)) : W p (kx_l E) e R s m args below meth c H locs cells slots Q (F0 m pc ls st0) := by
  intro T hT X
  obtain ⟨v, st₀, t, T', L', e0, X', hL, e1, e2, ⟨v', M1, ev, hW, hQ'⟩, st⟩ := hr T hT X
  cases ev
  obtain ⟨t2, a1, b1⟩ := hK _ _ _ _ _ _ (hq v M1 hQ') t.heap (locs ++ L') (cells + mc) (slots + ms) ls hW (fun q hq => (List.mem_append.mp hq).elim (h2 q) (hL q)) h3 (by omega) (by omega) T' e1 X'
  exact ⟨t2, st t2 a1, b1⟩
theorem kx_lastD {S : List Value} {cnt a : Nat} (hc : cnt ≠ 0) (h0 : S[cnt - 1]? = some (.ref a)) : ∃ As : List Value, (S.take cnt).reverse = .ref a :: As ∧ As.length + 1 = (S.take cnt).length ∧ S = As.reverse ++ .ref a :: S.drop cnt := by
  have h : (S.take cnt).getLast? = some (.ref a) := by
    obtain ⟨n, rfl⟩ : ∃ n, cnt = n + 1 := ⟨cnt - 1, by omega⟩
    rw [Nat.add_sub_cancel] at h0
    rw [List.take_succ, h0]
    simp
  have h1 : (S.take cnt).reverse.head? = some (.ref a) := by rw [List.head?_reverse]; exact h
  cases hr : (S.take cnt).reverse with
  | nil => rw [hr] at h1; cases h1
  | cons x As =>
    rw [hr] at h1
    cases h1
    refine ⟨As, rfl, ?_, ?_⟩
    · have e := congrArg List.length hr
      rw [List.length_reverse] at e
      rw [e]; rfl
    · have e : S.take cnt = As.reverse ++ [.ref a] := by rw [← List.reverse_reverse (S.take cnt), hr, List.reverse_cons]
      refine (List.take_append_drop cnt S).symm.trans ?_
      rw [e, List.append_assoc]
      rfl
/-- where the receiver's kind is that of a class, its cell is of that class -/
def kx_rcv (E : kx_E) (Wd : kx_M → Heap → Prop) : Prop := ∀ (M : kx_M) (H : Heap) (a ci : Nat) (r : vw_C), vwCl[ci]? = some r → Wd M H → kd M a = ci + 1 → ∃ cell : Cell, H[a]? = some cell ∧ cell.cls = (kx_D E).1 ci ∧ cell.vm = .none
theorem ok_callV (C : kx_C E p s m args meth c cc nL ws own) (hrc : kx_rcv E Wd) {ci : Nat} {Cn : String} {T : u_T} {N : Nat} (hc : vwCl[ci]? = some (Cn, T, N)) {y : MethodName} {bytes : ByteArray} {maxL n index fr lo : Nat} {wsy ws1 : List Cond} {ret : Option FieldType} (hG : GoodIn ws (wsV own index Cn y wsy)) (hw : wsy = .code y bytes maxL ret :: ws1) (hd : y.cls = Cn ∧ y.cls ≠ "java/lang/invoke/MethodHandle" ∧ y.cls ≠ "java/lang/invoke/VarHandle" ∧ (parseMethodDescriptor y.desc).map (fun d => d.parameters.length) = some n) (hR : fr + 1 ≤ R.frames ∧ 8 + (maxL + 11) + lo ≤ R.locals) (hdg : decode cc pc = .ok (.invokevirtual index, 3)) : kx_ok (kx_G E Wd p e R s m args below meth c nL Q) Qr pc (t_call (kx_CT E Wd y wsy fr lo) (pc + 3) (n + 1) (ci + 1)) := by
  intro K hK bc bs L S M h H locs cells slots ls h1 h2 h3 h4 h5
  obtain ⟨hl, hsum, hk, k, ks, hkb, hsb, hct⟩ := h
  obtain ⟨a, ha, hka⟩ := hk.resolve_left (Nat.succ_ne_zero ci)
  obtain ⟨As, e1, e2, e3⟩ := kx_lastD (Nat.succ_ne_zero _) ha
  rw [e1] at hct
  have hn : As.length = n := by rw [List.length_take] at e2; omega
  obtain ⟨cell, q1, q2, q3⟩ := hrc M H a ci _ hc h1 hka
  exact kx_back (fun v M1 hq => hq) hK h2 h3 h4 h5 hkb hsb (va_runV (As := As) (rest := S.drop (n + 1)) ⟨C.1, C.2.1, C.2.2.1, C.2.2.2.2.1, C.2.2.2.1⟩ hct (cwV n C.2.2.2.1 hG hw rfl rfl hd hR) ⟨kx_blind, ⟨cell, q1, by rw [q3]; rfl, by rw [q2]; exact (C.2.2.2.2.2.1.1 ci _ hc).2.1⟩, fun U hU hW => ⟨rfl, by rw [hU]; exact h1, C.2.2.2.2.2.warm hW⟩⟩ rfl hn h3.1 e3 (lv_room0 hsum) hdg ⟨by omega, by omega⟩)
theorem ok_callS (C : kx_C E p s m args meth c cc nL ws own) {y : MethodName} {bytes : ByteArray} {maxL n index fr lo : Nat} {wsy ws1 : List Cond} {ret : Option FieldType} (hG : GoodIn ws (wsS own index y wsy)) (hw : wsy = .code y bytes maxL ret :: ws1) (hd : y.cls = own ∧ y.cls ≠ "java/lang/invoke/MethodHandle" ∧ y.cls ≠ "java/lang/invoke/VarHandle" ∧ (parseMethodDescriptor y.desc).map (fun d => d.parameters.length) = some n) (hR : fr + 1 ≤ R.frames ∧ 8 + (maxL + 11) + lo ≤ R.locals) (hdg : decode cc pc = .ok (.invokestatic index, 3)) : kx_ok (kx_G E Wd p e R s m args below meth c nL Q) Qr pc (t_call (kx_CT E Wd y wsy fr lo) (pc + 3) n 0) := by
  intro K hK bc bs L S M h H locs cells slots ls h1 h2 h3 h4 h5
  obtain ⟨hl, hsum, -, k, ks, hkb, hsb, hct⟩ := h
  have hn : (S.take n).reverse.length = n := by rw [List.length_reverse, List.length_take]; omega
  have e3 : S = (S.take n).reverse.reverse ++ S.drop n := by rw [List.reverse_reverse, List.take_append_drop]
  exact kx_back (fun v M1 hq => hq) hK h2 h3 h4 h5 hkb hsb (va_runS (As := (S.take n).reverse) (rest := S.drop n) ⟨C.1, C.2.1, C.2.2.1, C.2.2.2.2.1, C.2.2.2.1⟩ hct (cwS n C.2.2.2.1 hG hw rfl rfl hd hR) ⟨kx_blind, fun U hU hW => ⟨rfl, by rw [hU]; exact h1, C.2.2.2.2.2.warm hW⟩⟩ rfl hn h3.1 e3 (lv_room0 hsum) hdg ⟨by omega, by omega⟩)
/-- a static call of another class -/
theorem ok_callT (C : kx_C E p s m args meth c cc nL ws own) {y : MethodName} {bytes : ByteArray} {maxL n index fr lo : Nat} {wsy ws1 : List Cond} {ret : Option FieldType} (hG : GoodIn ws wsy) (hst : Cond.static y ∈ ws) (hl1 : Cond.methodLink own index y ∈ ws) (hini : Cond.initialized y.cls ∈ ws) (hw : wsy = .code y bytes maxL ret :: ws1) (hd : y.cls ≠ "java/lang/invoke/MethodHandle" ∧ y.cls ≠ "java/lang/invoke/VarHandle" ∧ (parseMethodDescriptor y.desc).map (fun d => d.parameters.length) = some n) (hR : fr + 1 ≤ R.frames ∧ 8 + (maxL + 11) + lo ≤ R.locals) (hdg : decode cc pc = .ok (.invokestatic index, 3)) : kx_ok (kx_G E Wd p e R s m args below meth c nL Q) Qr pc (t_call (kx_CT E Wd y wsy fr lo) (pc + 3) n 0) := by
  intro K hK bc bs L S M h H locs cells slots ls h1 h2 h3 h4 h5
  obtain ⟨hl, hsum, -, k, ks, hkb, hsb, hct⟩ := h
  have hn : (S.take n).reverse.length = n := by rw [List.length_reverse, List.length_take]; omega
  have e3 : S = (S.take n).reverse.reverse ++ S.drop n := by rw [List.reverse_reverse, List.take_append_drop]
  exact kx_back (fun v M1 hq => hq) hK h2 h3 h4 h5 hkb hsb (va_runS (As := (S.take n).reverse) (rest := S.drop n) ⟨C.1, C.2.1, C.2.2.1, C.2.2.2.2.1, C.2.2.2.1⟩ hct ⟨callB_of n C.2.2.2.1 hG hw rfl rfl (C.2.2.2.1 _ hini) (C.2.2.2.1 _ hl1) hd hR, C.2.2.2.1 _ hst⟩ ⟨kx_blind, fun U hU hW => ⟨rfl, by rw [hU]; exact h1, C.2.2.2.2.2.warm hW⟩⟩ rfl hn h3.1 e3 (lv_room0 hsum) hdg ⟨by omega, by omega⟩)
theorem ok_callI (C : kx_C E p s m args meth c cc nL ws own) {y : MethodName} {bytes : ByteArray} {maxL n index fr lo : Nat} {wsy ws1 : List Cond} {kv : Nat} (hkv : kv ≠ 0) (hG : GoodIn ws wsy) (hw : wsy = .code y bytes maxL none :: ws1) (hini : Cond.initialized y.cls ∈ ws) (hl1 : Cond.methodLink own index y ∈ ws) (hi1 : Cond.instanceMethod y ∈ ws) (hy1 : y.name = "<init>") (hd : y.cls ≠ "java/lang/invoke/MethodHandle" ∧ y.cls ≠ "java/lang/invoke/VarHandle" ∧ (parseMethodDescriptor y.desc).map (fun d => d.parameters.length) = some n) (hR : fr + 1 ≤ R.frames ∧ 8 + (maxL + 11) + lo ≤ R.locals) (hdg : decode cc pc = .ok (.invokespecial index, 3)) : kx_ok (kx_G E Wd p e R s m args below meth c nL Q) Qr pc (t_call (kx_CT E Wd y wsy fr lo) (pc + 3) (n + 1) kv) := by
  intro K hK bc bs L S M h H locs cells slots ls h1 h2 h3 h4 h5
  obtain ⟨hl, hsum, hk, k, ks, hkb, hsb, hct⟩ := h
  obtain ⟨a, ha, hka⟩ := hk.resolve_left hkv
  obtain ⟨As, e1, e2, e3⟩ := kx_lastD (Nat.succ_ne_zero _) ha
  rw [e1] at hct
  have hn : As.length = n := by rw [List.length_take] at e2; omega
  exact kx_back (fun v M1 hq => hq) hK h2 h3 h4 h5 hkb hsb (va_runI (As := As) (rest := S.drop (n + 1)) ⟨C.1, C.2.1, C.2.2.1, C.2.2.2.2.1, C.2.2.2.1⟩ hct (cwI n C.2.2.2.1 hG hw rfl rfl (C.2.2.2.1 _ hini) (C.2.2.2.1 _ hl1) (C.2.2.2.1 _ hi1) hy1 hd hR) ⟨kx_blind, fun U hU hW => ⟨rfl, by rw [hU]; exact h1, C.2.2.2.2.2.warm hW⟩⟩ rfl hn h3.1 e3 (lv_room0 hsum) hdg ⟨by omega, by omega⟩)
theorem ok_callIN (C : kx_C E p s m args meth c cc nL ws own) {y : MethodName} {bytes : ByteArray} {maxL n index fr lo : Nat} {wsy ws1 : List Cond} {kv i : Nat} {host : String} (hkv : kv ≠ 0) (hq : kx_nest[i]? = some (own, index, y, host)) (hG : GoodIn ws wsy) (hw : wsy = .code y bytes maxL none :: ws1) (hini : Cond.initialized y.cls ∈ ws) (hi1 : Cond.instanceMethod y ∈ ws) (hy1 : y.name = "<init>") (hd : y.cls ≠ "java/lang/invoke/MethodHandle" ∧ y.cls ≠ "java/lang/invoke/VarHandle" ∧ (parseMethodDescriptor y.desc).map (fun d => d.parameters.length) = some n) (hR : fr + 1 ≤ R.frames ∧ 8 + (maxL + 11) + lo ≤ R.locals) (hdg : decode cc pc = .ok (.invokespecial index, 3)) : kx_ok (kx_G E Wd p e R s m args below meth c nL Q) Qr pc (t_call (kx_CT E Wd y wsy fr lo) (pc + 3) (n + 1) kv) := by
  intro K hK bc bs L S M h H locs cells slots ls h1 h2 h3 h4 h5
  obtain ⟨hl, hsum, hk, k, ks, hkb, hsb, hct⟩ := h
  obtain ⟨a, ha, hka⟩ := hk.resolve_left hkv
  obtain ⟨As, e1, e2, e3⟩ := kx_lastD (Nat.succ_ne_zero _) ha
  rw [e1] at hct
  have hn : As.length = n := by rw [List.length_take] at e2; omega
  obtain ⟨-, -, -, -, -, -, -, -, -, -, -, -, -, hne⟩ := C.2.2.2.2.2
  exact kx_back (fun v M1 hq => hq) hK h2 h3 h4 h5 hkb hsb (va_runIN (As := As) (rest := S.drop (n + 1)) ⟨C.1, C.2.1, C.2.2.1, C.2.2.2.2.1, C.2.2.2.1⟩ hct ⟨va_cnB n C.2.2.2.1 hG hw rfl rfl (hne _ (List.mem_of_getElem? hq)) (C.2.2.2.1 _ hini) hd hR, hy1, C.2.2.2.1 _ hi1⟩ ⟨kx_blind, fun U hU hW => ⟨rfl, by rw [hU]; exact h1, C.2.2.2.2.2.warm hW⟩⟩ rfl hn h3.1 e3 (lv_room0 hsum) hdg ⟨by omega, by omega⟩)
theorem ok_callSN (C : kx_C E p s m args meth c cc nL ws own) {y : MethodName} {bytes : ByteArray} {maxL n index fr lo : Nat} {wsy ws1 : List Cond} {i : Nat} {host : String} {ret : Option FieldType} (hq : kx_nest[i]? = some (own, index, y, host)) (hG : GoodIn ws wsy) (hw : wsy = .code y bytes maxL ret :: ws1) (hini : Cond.initialized y.cls ∈ ws) (hst : Cond.static y ∈ ws) (hd : y.cls ≠ "java/lang/invoke/MethodHandle" ∧ y.cls ≠ "java/lang/invoke/VarHandle" ∧ (parseMethodDescriptor y.desc).map (fun d => d.parameters.length) = some n) (hR : fr + 1 ≤ R.frames ∧ 8 + (maxL + 11) + lo ≤ R.locals) (hdg : decode cc pc = .ok (.invokestatic index, 3)) : kx_ok (kx_G E Wd p e R s m args below meth c nL Q) Qr pc (t_call (kx_CT E Wd y wsy fr lo) (pc + 3) n 0) := by
  intro K hK bc bs L S M h H locs cells slots ls h1 h2 h3 h4 h5
  obtain ⟨hl, hsum, -, k, ks, hkb, hsb, hct⟩ := h
  have hn : (S.take n).reverse.length = n := by rw [List.length_reverse, List.length_take]; omega
  have e3 : S = (S.take n).reverse.reverse ++ S.drop n := by rw [List.reverse_reverse, List.take_append_drop]
  obtain ⟨-, -, -, -, -, -, -, -, -, -, -, -, -, hne⟩ := C.2.2.2.2.2
  exact kx_back (fun v M1 hq => hq) hK h2 h3 h4 h5 hkb hsb (va_runSN (As := (S.take n).reverse) (rest := S.drop n) ⟨C.1, C.2.1, C.2.2.1, C.2.2.2.2.1, C.2.2.2.1⟩ hct ⟨va_cnB n C.2.2.2.1 hG hw rfl rfl (hne _ (List.mem_of_getElem? hq)) (C.2.2.2.1 _ hini) hd hR, C.2.2.2.1 _ hst, trivial⟩ ⟨kx_blind, fun U hU hW => ⟨rfl, by rw [hU]; exact h1, C.2.2.2.2.2.warm hW⟩⟩ rfl hn h3.1 e3 (lv_room0 hsum) hdg ⟨by omega, by omega⟩)
/-- Object's own constructor -/
theorem ok_oin (C : kx_C E p s m args meth c cc nL ws own) {index : Nat} (hl1 : Cond.methodLink own index objectInit ∈ ws) (hi1 : Cond.instanceMethod objectInit ∈ ws) (hc1 : Cond.code objectInit ⟨#[0xb1]⟩ 1 none ∈ ws) (hR : 1 ≤ R.frames ∧ 12 ≤ R.locals) (hdg : decode cc pc = .ok (.invokespecial index, 3)) : kx_ok (kx_G E Wd p e R s m args below meth c nL Q) Qr pc (t_oin (pc + 3)) := by
  intro K hK bc bs L S M h H locs cells slots ls h1 h2 h3 h4 h5
  unfold t_oin at h
  split at h
  · obtain ⟨a, ha, h⟩ := h
    subst ha
    exact W.objInit C.1 C.2.1 C.2.2.2.2.1 (C.2.2.2.1 _ hl1) (C.2.2.2.1 _ hi1) (C.2.2.2.1 _ hc1) rfl (h3.1.trans C.2.2.1.symm) rfl hdg hR.1 (by show 2 * 0 + 0 + 12 ≤ _; omega) (hK _ _ _ _ _ _ h H locs cells slots ls h1 h2 h3 h4 h5)
  · exact h.elim
theorem ok_max (C : kx_C E p s m args meth c cc nL ws own) {index : Nat} (hl1 : Cond.methodLink own index Lib.Math.max.name ∈ ws) (hst : Cond.static Lib.Math.max.name ∈ ws) (hini : Cond.initialized "java/lang/Math" ∈ ws) (hc1 : Cond.code Lib.Math.max.name Lib.Math.max.code 2 (some .int) ∈ ws) (hR : 1 ≤ R.frames ∧ 21 ≤ R.locals) (hdg : decode cc pc = .ok (.invokestatic index, 3)) : kx_ok (kx_G E Wd p e R s m args below meth c nL Q) Qr pc (t_mm (pc + 3) (fun x y => if x < y then y else x)) := by
  intro K hK bc bs L S M h H locs cells slots ls h1 h2 h3 h4 h5
  unfold t_mm at h
  split at h
  · obtain ⟨hs, h⟩ := h
    unfold kx_sum at hs
    exact va_mmax C.1 C.2.1 (C.2.2.1.trans h3.1.symm) C.2.2.2.2.1 (C.2.2.2.1 _ hl1) (C.2.2.2.1 _ hst) (C.2.2.2.1 _ hini) (C.2.2.2.1 _ hc1) hR.1 (by omega) (by omega) (by omega) hdg (hK _ _ _ _ _ _ h H locs cells slots ls h1 h2 h3 h4 h5)
  · exact h.elim
theorem ok_min (C : kx_C E p s m args meth c cc nL ws own) {index : Nat} (hl1 : Cond.methodLink own index Lib.Math.min.name ∈ ws) (hst : Cond.static Lib.Math.min.name ∈ ws) (hini : Cond.initialized "java/lang/Math" ∈ ws) (hc1 : Cond.code Lib.Math.min.name Lib.Math.min.code 2 (some .int) ∈ ws) (hR : 1 ≤ R.frames ∧ 21 ≤ R.locals) (hdg : decode cc pc = .ok (.invokestatic index, 3)) : kx_ok (kx_G E Wd p e R s m args below meth c nL Q) Qr pc (t_mm (pc + 3) (fun x y => if y < x then y else x)) := by
  intro K hK bc bs L S M h H locs cells slots ls h1 h2 h3 h4 h5
  unfold t_mm at h
  split at h
  · obtain ⟨hs, h⟩ := h
    unfold kx_sum at hs
    exact va_mmin C.1 C.2.1 (C.2.2.1.trans h3.1.symm) C.2.2.2.2.1 (C.2.2.2.1 _ hl1) (C.2.2.2.1 _ hst) (C.2.2.2.1 _ hini) (C.2.2.2.1 _ hc1) hR.1 (by omega) (by omega) (by omega) hdg (hK _ _ _ _ _ _ h H locs cells slots ls h1 h2 h3 h4 h5)
  · exact h.elim
theorem ok_tsw (C : kx_C E p s m args meth c cc nL ws own) {d lo hi : Int} {offs : Array Int} {len : Nat} {tbl : List (Int32 × Nat)} {dT : Nat} (hd : decode cc pc = .ok (.tableswitch d lo hi offs, len)) (h0 : (pc : Int) + d = (dT : Int))
    (hin : ∀ j : Nat, j < (hi - lo + 1).toNat → j < offs.size ∧ (pc : Int) + offs.getD j 0 = (sw_sel tbl dT (Int32.ofInt (lo + j)) : Int)) (hlo : -2147483648 ≤ lo) (hhi : hi < 2147483648) (hout : ∀ q ∈ tbl, ¬ (q.1.toInt < lo ∨ hi < q.1.toInt)) : kx_ok (kx_G E Wd p e R s m args below meth c nL Q) Qr pc (t_sw tbl dT) := by
  intro K hK bc bs L S M h H locs cells slots ls h1 h2 h3 h4 h5
  unfold t_sw at h
  split at h
  · rename_i x S'
    have h := sw_to h
    by_cases hx : x.toInt < lo ∨ hi < x.toInt
    · have e : sw_sel tbl dT x = dT := sw_out (fun q hq e => hout q hq (by rw [← e]; exact hx))
      rw [e] at h
      exact lv_tableOut C.1 C.2.1 hd hx h0 (hK _ _ _ _ _ _ h H locs cells slots ls h1 h2 h3 h4 h5)
    · have h6 : ¬ x.toInt < lo := fun z => hx (Or.inl z)
      have h7 : ¬ hi < x.toInt := fun z => hx (Or.inr z)
      obtain ⟨h8', h9⟩ := hin (x.toInt - lo).toNat (by omega)
      have h8 : offs[(x.toInt - lo).toNat]? = some (offs.getD (x.toInt - lo).toNat 0) := by
        rw [Array.getD_eq_getD_getElem?, Array.getElem?_eq_getElem h8']
        rfl
      have e : Int32.ofInt (lo + ((x.toInt - lo).toNat : Int)) = x := by
        rw [show lo + ((x.toInt - lo).toNat : Int) = x.toInt by omega]
        simp
      rw [e] at h9
      exact lv_tableIn C.1 C.2.1 hd h6 h7 h8 h9 (hK _ _ _ _ _ _ h H locs cells slots ls h1 h2 h3 h4 h5)
  · exact h.elim
theorem ok_lsw (C : kx_C E p s m args meth c cc nL ws own) {d : Int} {ps : Array (Int × Int)} {len : Nat} {tbl : List (Int32 × Nat)} {dT : Nat} (hd : decode cc pc = .ok (.lookupswitch d ps, len)) (hp : (ps.toList.zip (ps.toList.drop 1)).all (fun (a, next) => a.1 < next.1) = true) (h0 : ∀ x : Int32, (pc : Int) + Op.lookupswitch.offset ps.toList d x.toInt = (sw_sel tbl dT x : Int)) : kx_ok (kx_G E Wd p e R s m args below meth c nL Q) Qr pc (t_sw tbl dT) := by
  intro K hK bc bs L S M h H locs cells slots ls h1 h2 h3 h4 h5
  unfold t_sw at h
  split at h
  · rename_i x S'
    have h := sw_to h
    exact lv_lookup C.1 C.2.1 hd hp rfl (h0 x) (hK _ _ _ _ _ _ h H locs cells slots ls h1 h2 h3 h4 h5)
  · exact h.elim
end KXC
/-- what a body owes at its end -/
abbrev kx_QC (E : kx_E) (Wd : kx_M → Heap → Prop) (Qr : kx_Q) : Array Value → State → Outcome → State → Prop := fun _ _ o t => ∃ (v : Option Value) (M1 : kx_M), o = .returned v ∧ Wd M1 t.heap ∧ Qr v M1
section KXR
variable {E : kx_E} {Wd : kx_M → Heap → Prop} {p : Program} {e : Env} {R : Room} {s : State} {m : MethodId} {args : Array Value} {below : List Frame} {meth : Method} {c : Code} {nL : Nat} {cc : ByteArray} {ws : List Cond} {own : String} {Qr : kx_Q} {pc : Nat}
theorem ok_iret (C : kx_C E p s m args meth c cc nL ws own) (hr : meth.sig.returnType = some .int) (hl : meth.locks = false) (hd : decode cc pc = .ok (.ireturn, 1)) : kx_ok (kx_G E Wd p e R s m args below meth c nL (MQ below (kx_QC E Wd Qr) args s R.cells R.slots (fun q => kx_ba E ≤ q))) Qr pc t_iret := by
  intro K hK bc bs L S M h H locs cells slots ls h1 h2 h3 h4 h5
  unfold t_iret at h
  split at h
  · exact W.widen (k := R.cells) (n := R.slots) (by omega) (by omega) (W.iret C.1 C.2.1 hr (fun t ht _ => ⟨_, M, rfl, by rw [ht]; exact h1, h⟩) h2 hd hl)
  · exact h.elim
theorem ok_lret (C : kx_C E p s m args meth c cc nL ws own) (hr : meth.sig.returnType = some .long) (hl : meth.locks = false) (hd : decode cc pc = .ok (.lreturn, 1)) : kx_ok (kx_G E Wd p e R s m args below meth c nL (MQ below (kx_QC E Wd Qr) args s R.cells R.slots (fun q => kx_ba E ≤ q))) Qr pc t_lret := by
  intro K hK bc bs L S M h H locs cells slots ls h1 h2 h3 h4 h5
  unfold t_lret at h
  split at h
  · exact W.widen (k := R.cells) (n := R.slots) (by omega) (by omega) (W.lret C.1 C.2.1 hr (fun t ht _ => ⟨_, M, rfl, by rw [ht]; exact h1, h⟩) h2 hd hl)
  · exact h.elim
theorem ok_zret (C : kx_C E p s m args meth c cc nL ws own) (hr : meth.sig.returnType = some .boolean) (hl : meth.locks = false) (hd : decode cc pc = .ok (.ireturn, 1)) : kx_ok (kx_G E Wd p e R s m args below meth c nL (MQ below (kx_QC E Wd Qr) args s R.cells R.slots (fun q => kx_ba E ≤ q))) Qr pc t_zret := by
  intro K hK bc bs L S M h H locs cells slots ls h1 h2 h3 h4 h5
  unfold t_zret at h
  split at h
  · obtain ⟨hx, h⟩ := h
    exact W.widen (k := R.cells) (n := R.slots) (by omega) (by omega) (W.zret C.1 C.2.1 hr (by rcases hx with rfl | rfl <;> rfl) (fun t ht _ => ⟨_, M, rfl, by rw [ht]; exact h1, h⟩) h2 hd hl)
  · exact h.elim
theorem ok_aret (C : kx_C E p s m args meth c cc nL ws own) {rt : FieldType} (hr : meth.sig.returnType = some rt) (hrt : (∃ n, rt = .object n) ∨ ∃ t, rt = .array t) (hl : meth.locks = false) (hd : decode cc pc = .ok (.areturn, 1)) : kx_ok (kx_G E Wd p e R s m args below meth c nL (MQ below (kx_QC E Wd Qr) args s R.cells R.slots (fun q => kx_ba E ≤ q))) Qr pc t_aret := by
  intro K hK bc bs L S M h H locs cells slots ls h1 h2 h3 h4 h5
  unfold t_aret at h
  split at h
  · obtain ⟨⟨o, ho⟩, h⟩ := h
    subst ho
    exact W.widen (k := R.cells) (n := R.slots) (by omega) (by omega) (W.aret C.1 C.2.1 hr hrt (by cases o with
      | none => exact Or.inl rfl
      | some a => exact Or.inr ⟨a, rfl⟩) (fun t ht _ => ⟨_, M, rfl, by rw [ht]; exact h1, h⟩) h2 hd hl)
  · exact h.elim
theorem ok_vret (C : kx_C E p s m args meth c cc nL ws own) (hr : meth.sig.returnType = none) (hl : meth.locks = false) (hd : decode cc pc = .ok (.return_, 1)) : kx_ok (kx_G E Wd p e R s m args below meth c nL (MQ below (kx_QC E Wd Qr) args s R.cells R.slots (fun q => kx_ba E ≤ q))) Qr pc t_vret := by
  intro K hK bc bs L S M h H locs cells slots ls h1 h2 h3 h4 h5
  unfold t_vret at h
  split at h
  · exact W.widen (k := R.cells) (n := R.slots) (by omega) (by omega) (W.vret C.1 C.2.1 hr (fun t ht _ => ⟨_, M, rfl, by rw [ht]; exact h1, h⟩) h2 hd hl)
  · exact h.elim
end KXR
theorem ok_no {G : kx_K} {Qr : kx_Q} {pc : Nat} : kx_ok G Qr pc t_no := fun _ _ _ _ _ _ _ h => h.elim
/-- all rows of a method -/
def kx_all (G : kx_K) (Qr : kx_Q) : List (Nat × kx_T) → Prop
  | [] => True
  | q :: l => kx_ok G Qr q.1 q.2 ∧ kx_all G Qr l
def kx_look (pc : Nat) : List (Nat × kx_T) → kx_T
  | [] => t_no
  | q :: l => cond (Nat.beq q.1 pc) q.2 (kx_look pc l)
def kx_run (G : kx_K) (Qr : kx_Q) (cd : List (Nat × kx_T)) (st : Nat → Bool) : Nat → kx_K
  | 0 => G
  | n + 1 => fun bc bs pc L S M => cond (st pc) (G bc bs pc L S M) (kx_look pc cd (kx_run G Qr cd st n) Qr bc bs L S M)
theorem kx_run_z (G : kx_K) (Qr : kx_Q) (cd : List (Nat × kx_T)) (st : Nat → Bool) (bc bs pc : Nat) (L : List (Nat × Value)) (S : List Value) (M : kx_M) : kx_run G Qr cd st 0 bc bs pc L S M = G bc bs pc L S M := propext Iff.rfl
theorem kx_run_s (G : kx_K) (Qr : kx_Q) (cd : List (Nat × kx_T)) (st : Nat → Bool) (n bc bs pc : Nat) (L : List (Nat × Value)) (S : List Value) (M : kx_M) : kx_run G Qr cd st (n + 1) bc bs pc L S M = cond (st pc) (G bc bs pc L S M) (kx_look pc cd (kx_run G Qr cd st n) Qr bc bs L S M) := propext Iff.rfl
theorem kx_look_ok {G : kx_K} {Qr : kx_Q} {cd : List (Nat × kx_T)} (h : kx_all G Qr cd) (pc : Nat) : kx_ok G Qr pc (kx_look pc cd) := by
  induction cd with
  | nil => exact ok_no
  | cons q l ih =>
    unfold kx_look
    cases hb : Nat.beq q.1 pc with
    | true => rw [← Nat.eq_of_beq_eq_true hb]; exact h.1
    | false => exact ih h.2
theorem kx_run_to {G : kx_K} {Qr : kx_Q} {cd : List (Nat × kx_T)} (h : kx_all G Qr cd) (st : Nat → Bool) (n : Nat) : ∀ bc bs pc L S M, kx_run G Qr cd st n bc bs pc L S M → G bc bs pc L S M := by
  induction n with
  | zero => exact fun _ _ _ _ _ _ h => h
  | succ n ih =>
    intro bc bs pc L S M hr
    rw [kx_run_s] at hr
    cases hb : st pc with
    | true => rw [hb] at hr; exact hr
    | false => rw [hb] at hr; exact kx_look_ok h pc _ ih bc bs L S M hr
theorem kx_run_ok {G : kx_K} {Qr : kx_Q} {cd : List (Nat × kx_T)} (h : kx_all G Qr cd) (st : Nat → Bool) (n : Nat) : ∀ bc bs pc L S M, kx_look pc cd (kx_run G Qr cd st n) Qr bc bs L S M → G bc bs pc L S M := fun bc bs pc L S M hr => kx_look_ok h pc _ (kx_run_to h st n) bc bs L S M hr
/-- from a body to a contract -/
theorem kx_enter {E : kx_E} {Wd : kx_M → Heap → Prop} {y : MethodName} {ws ws1 : List Cond} {fr lo : Nat} {av : List Value} {M : kx_M} {k ks : Nat} {Qr : kx_Q} {cc : ByteArray} {maxL : Nat} {ret : Option FieldType} (hy : plainName y.cls = true) (hw : ws = .code y cc maxL ret :: ws1) (hlen : (lg_sl av).length ≤ maxL) {own : String} (ho : y.cls = own) {cd : List (Nat × kx_T)}
    (hall : ∀ (p : Program) (e : Env) (s : State) (m : MethodId) (below : List Frame) (meth : Method) (c : Code), kx_C E p s m av.toArray meth c cc maxL ws own → meth.sig.returnType = ret → meth.locks = false → meth.name = y.name → kx_all (kx_G E Wd p e { frames := fr, cells := k, slots := ks, locals := lo } s m av.toArray below meth c maxL (MQ below (kx_QC E Wd Qr) av.toArray s k ks (fun q => kx_ba E ≤ q))) Qr cd)
    (body : ∀ G : kx_K, kx_all G Qr cd → G k ks 0 (lv_args 0 av) [] M) : kx_CT E Wd y ws fr lo av M k ks Qr := by
  refine Met.ofW (cc := cc) (maxL := maxL) (ret := ret) hy hw ?_
  intro p e s m args below meth c s₁ B hml hv
  obtain ⟨rfl, hM, hkn⟩ := hv
  subst ho
  have hts := atoms_spec (ws := ws) B.pre
  have hC : kx_C E p s m av.toArray meth c cc maxL ws y.cls := ⟨B.exec, B.bytes, hml, hts, findClass_of_methodNamed B.named, hkn⟩
  have hl := lv_entry av (n := maxL) hlen
  rw [lg_entry_eq]
  exact body _ (hall p e s m below meth c hC B.returns B.notSynchronized (name_of_methodNamed B.named B.method).1) s.heap [] 0 0 _ hM (fun q hq => absurd hq List.not_mem_nil) hl (by show 0 + k ≤ k; omega) (by show 0 + ks ≤ ks; omega)

