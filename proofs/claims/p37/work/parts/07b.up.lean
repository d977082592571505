theorem sw_look (x : Int32) {d pc : Int} {dT : Nat} (h1 : pc + d = (dT : Int)) {ps : List (Int × Int)} {tbl : List (Int32 × Nat)} (h2 : tbl.map (fun q => (q.1.toInt, (q.2 : Int))) = ps.map (fun q => (q.1, pc + q.2))) : pc + Op.lookupswitch.offset ps d x.toInt = (sw_sel tbl dT x : Int) := by
  induction tbl generalizing ps with
  | nil =>
    cases ps with
    | nil => exact h1
    | cons q l => cases h2
  | cons q l ih =>
    cases ps with
    | nil => cases h2
    | cons r l2 =>
      obtain ⟨a, o⟩ := r
      simp only [List.map_cons, List.cons.injEq, Prod.mk.injEq] at h2
      obtain ⟨⟨e1, e2⟩, e3⟩ := h2
      rw [Op.lookupswitch.offset_cons]
      unfold sw_sel
      by_cases hx : x = q.1
      · rw [if_pos hx, if_pos (by rw [hx, e1]), e2]
      · rw [if_neg hx, if_neg (fun z => hx (Int32.toInt_inj.mp (by rw [e1, z])))]
        exact ih e3
/-! THE UPPER LEVEL: lists and ByCultivars as values -/
def kx_un (k : Nat) : Nat := if k = 12 then 1 else if k = 13 then 3 else k
def kx_ab (E : kx_E) (N M : kx_M) : Prop :=
  (∀ a : Nat, kd M a ≠ 0 → kd N a = kx_un (kd M a) ∧ kd M a ≠ 21) ∧
  (∀ i a : Nat, kd M a ≠ 0 → ((20 ≤ i ∧ i < 40) ∨ 60 ≤ i) → fI N i a = fI M i a ∧ fR N i a = fR M i a) ∧
  (∀ a : Nat, kd M a = 20 → ln N a = ln M a ∧ ∀ j : Nat, aI N a j = aI M a j) ∧
  (∀ a : Nat, kd M a = 1 → ∃ d : Nat, fR N 1 a = some d ∧ fI N 2 a = Int32.ofNat (mL M a).length ∧ (mL M a).length ≤ 1001 ∧ (∀ x ∈ mL M a, 2 ≤ kd M x ∧ kd M x ≤ 11) ∧ ((d = kx_e0 E ∧ mL M a = []) ∨ (kd N d = 21 ∧ kd M d = 0 ∧ (0 < ln N d ∧ ln N d ≤ 2000) ∧ (mL M a).length ≤ ln N d ∧ ∀ j : Nat, j < (mL M a).length → aR N d j = (mL M a)[j]?))) ∧
  (∀ a b d : Nat, kd M a = 1 → kd M b = 1 → fR N 1 a = some d → fR N 1 b = some d → a = b ∨ d = kx_e0 E) ∧
  (∀ a : Nat, kd M a = 3 → ∃ d : Nat, fR N 40 a = some d ∧ kd N d = 20 ∧ kd M d = 0 ∧ ln N d = 3 ∧ ∀ j : Nat, j < 3 → aI N d j = aI M a j) ∧
  (∀ a b d : Nat, kd M a = 3 → kd M b = 3 → fR N 40 a = some d → fR N 40 b = some d → a = b) ∧
  (∀ a : Nat, kd M a = 12 → fI N 2 a = 0)
def kx_w2 (E : kx_E) (M : kx_M) (H : Heap) : Prop := ∃ N : kx_M, kx_w1 E N H ∧ kx_ab E N M
def kx_cs (ci : Nat) : Bool := !(Nat.beq ci 0) && !(Nat.beq ci 2)
def kx_nw (ci : Nat) : Nat := if ci = 0 then 12 else if ci = 2 then 13 else ci + 1
theorem kx_cs_of {ci : Nat} (h : kx_cs ci = true) : ci ≠ 0 ∧ ci ≠ 2 := by
  unfold kx_cs at h
  simp only [Bool.and_eq_true, Bool.not_eq_true'] at h
  exact ⟨fun z => by rw [z] at h; exact absurd h.1 (by decide), fun z => by rw [z] at h; exact absurd h.2 (by decide)⟩
theorem vwCl_N {ci : Nat} {r : vw_C} (h : vwCl[ci]? = some r) : r.2.2 ≤ 18 := by
  have hl := vwCl_lt h
  have : ∀ c : Nat, c < 11 → ∀ r : vw_C, vwCl[c]? = some r → r.2.2 ≤ 18 := by
    intro c hc r hr
    rcases c with _ | _ | _ | _ | _ | _ | _ | _ | _ | _ | _ | c
    all_goals first | (cases hr; show _ ≤ 18; exact Nat.le_of_ble_eq_true rfl) | omega
  exact this ci hl r h
theorem kx_un_lt {k : Nat} (h : k ≤ 11) : kx_un k = k := by
  unfold kx_un
  rw [if_neg (by omega), if_neg (by omega)]
theorem kx_ab.kdN {E : kx_E} {N M : kx_M} (h : kx_ab E N M) {a k : Nat} (hk : kd M a = k) (h1 : 1 ≤ k) (h2 : k ≤ 11 ∨ k = 20) : kd N a = k := by
  obtain ⟨e, -⟩ := h.1 a (by omega)
  rw [e, hk]
  unfold kx_un
  rw [if_neg (by omega), if_neg (by omega)]
theorem kx_ab.fresh {E : kx_E} {N M : kx_M} (h : kx_ab E N M) {a : Nat} (hk : kd N a = 0) : kd M a = 0 := by
  cases hm : kd M a with
  | zero => rfl
  | succ n =>
    obtain ⟨e, -⟩ := h.1 a (by omega)
    rw [hk] at e
    unfold kx_un at e
    split at e
    · omega
    · split at e <;> omega
theorem kx_ab_sI {E : kx_E} {N M : kx_M} {i a : Nat} {x : Int32} (h : kx_ab E N M) (hi : (20 ≤ i ∧ i < 40) ∨ 60 ≤ i) : kx_ab E (sI N i a x) (sI M i a x) := by
  obtain ⟨h1, h2, h3, h4, h5, h6, h7, h8⟩ := h
  refine ⟨h1, fun j b h0 hj => ⟨?_, (h2 j b h0 hj).2⟩, h3, fun b hb => ?_, h5, h6, h7, fun b hb => ?_⟩
  · show u2 (fI N) i a x j b = u2 (fI M) i a x j b
    unfold u2
    rw [(h2 j b h0 hj).1]
  · obtain ⟨d, e1, e2, e3⟩ := h4 b hb
    refine ⟨d, e1, ?_, e3⟩
    show u2 (fI N) i a x 2 b = _
    unfold u2
    rw [if_neg (by omega)]
    exact e2
  · show u2 (fI N) i a x 2 b = _
    unfold u2
    rw [if_neg (by omega)]
    exact h8 b hb
theorem kx_ab_sR {E : kx_E} {N M : kx_M} {i a : Nat} {x : Option Nat} (h : kx_ab E N M) (hi : (20 ≤ i ∧ i < 40) ∨ 60 ≤ i) : kx_ab E (sR N i a x) (sR M i a x) := by
  obtain ⟨h1, h2, h3, h4, h5, h6, h7, h8⟩ := h
  have e1 : ∀ b, fR (sR N i a x) 1 b = fR N 1 b := fun b => if_neg (by omega)
  have e40 : ∀ b, fR (sR N i a x) 40 b = fR N 40 b := fun b => if_neg (by omega)
  refine ⟨h1, fun j b h0 hj => ⟨(h2 j b h0 hj).1, ?_⟩, h3, fun b hb => ?_, fun b c d hb hc => ?_, fun b hb => ?_, fun b c d hb hc => ?_, h8⟩
  · show u2 (fR N) i a x j b = u2 (fR M) i a x j b
    unfold u2
    rw [(h2 j b h0 hj).2]
  · obtain ⟨d, q1, q3⟩ := h4 b hb
    exact ⟨d, by rw [e1]; exact q1, q3⟩
  · rw [e1, e1]; exact h5 b c d hb hc
  · obtain ⟨d, q1, q3⟩ := h6 b hb
    exact ⟨d, by rw [e40]; exact q1, q3⟩
  · rw [e40, e40]; exact h7 b c d hb hc
/-- a fresh cell on both levels -/
theorem kx_ab_sN {E : kx_E} {N M : kx_M} {a k kN n : Nat} (h : kx_ab E N M) (ha : kd N a = 0) (hkN : kN = kx_un k) (hk1 : k ≠ 1) (hk3 : k ≠ 3) (hk21 : k ≠ 21) : kx_ab E (sN N a kN n) (sN M a k n) := by
  have hM := h.fresh ha
  obtain ⟨h1, h2, h3, h4, h5, h6, h7, h8⟩ := h
  have fRne : ∀ i b, b ≠ a → fR (sN N a kN n) i b = fR N i b := fun i b hb => if_neg hb
  have old : ∀ b, kd (sN M a k n) b ≠ 0 → b ≠ a → kd M b = kd (sN M a k n) b := fun b _ hb => (if_neg hb).symm
  refine ⟨fun b hb => ?_, fun i b h0 hi => ?_, fun b hb => ?_, fun b hb => ?_, fun b c d hb hc => ?_, fun b hb => ?_, fun b c d hb hc => ?_, fun b hb => ?_⟩
  · by_cases e : b = a
    · subst e
      rw [kd_sN, kd_sN]
      exact ⟨hkN, hk21⟩
    · rw [kd_sN_ne e] at hb
      rw [kd_sN_ne e, kd_sN_ne e]
      exact h1 b hb
  · by_cases e : b = a
    · subst e
      exact ⟨(if_pos rfl).trans (if_pos rfl).symm, (if_pos rfl).trans (if_pos rfl).symm⟩
    · rw [kd_sN_ne e] at h0
      obtain ⟨q1, q2⟩ := h2 i b h0 hi
      exact ⟨(if_neg e).trans (q1.trans (if_neg e).symm), (if_neg e).trans (q2.trans (if_neg e).symm)⟩
  · by_cases e : b = a
    · subst e
      exact ⟨(if_pos rfl).trans (if_pos rfl).symm, fun j => (if_pos rfl).trans (if_pos rfl).symm⟩
    · rw [kd_sN_ne e] at hb
      obtain ⟨q1, q2⟩ := h3 b hb
      exact ⟨(if_neg e).trans (q1.trans (if_neg e).symm), fun j => (if_neg e).trans ((q2 j).trans (if_neg e).symm)⟩
  · by_cases e : b = a
    · subst e; rw [kd_sN] at hb; exact absurd hb hk1
    · rw [kd_sN_ne e] at hb
      have eL : mL (sN M a k n) b = mL M b := if_neg e
      obtain ⟨d, q1, q2, q3, q4, q5⟩ := h4 b hb
      rw [eL]
      refine ⟨d, by rw [fRne 1 b e]; exact q1, ?_, q3, fun x hx => ?_, ?_⟩
      · show (if b = a then 0 else fI N 2 b) = _
        rw [if_neg e]; exact q2
      · have hx' := q4 x hx
        rw [kd_sN_ne (fun z => by rw [z] at hx'; omega)]
        exact hx'
      · rcases q5 with q5 | ⟨r1, r2, r3, r4, r5⟩
        · exact Or.inl q5
        · have hda : d ≠ a := fun z => by rw [z] at r1; omega
          refine Or.inr ⟨by rw [kd_sN_ne hda]; exact r1, by rw [kd_sN_ne hda]; exact r2, ?_, ?_, ?_⟩
          · show 0 < (if d = a then n else ln N d) ∧ (if d = a then n else ln N d) ≤ 2000; rw [if_neg hda]; exact r3
          · show _ ≤ (if d = a then n else ln N d); rw [if_neg hda]; exact r4
          · intro j hj
            show (if d = a then none else aR N d j) = _
            rw [if_neg hda]; exact r5 j hj
  · have eb : b ≠ a := fun z => by subst z; rw [kd_sN] at hb; exact hk1 hb
    have ec : c ≠ a := fun z => by subst z; rw [kd_sN] at hc; exact hk1 hc
    rw [kd_sN_ne eb] at hb
    rw [kd_sN_ne ec] at hc
    rw [fRne 1 b eb, fRne 1 c ec]
    exact h5 b c d hb hc
  · have eb : b ≠ a := fun z => by subst z; rw [kd_sN] at hb; exact hk3 hb
    rw [kd_sN_ne eb] at hb
    obtain ⟨d, q1, q2, q3, q4, q5⟩ := h6 b hb
    have hda : d ≠ a := fun z => by rw [z] at q2; omega
    refine ⟨d, by rw [fRne 40 b eb]; exact q1, by rw [kd_sN_ne hda]; exact q2, by rw [kd_sN_ne hda]; exact q3, ?_, fun j hj => ?_⟩
    · show (if d = a then n else ln N d) = 3; rw [if_neg hda]; exact q4
    · show (if d = a then 0 else aI N d j) = (if b = a then 0 else aI M b j)
      rw [if_neg hda, if_neg eb]; exact q5 j hj
  · have eb : b ≠ a := fun z => by subst z; rw [kd_sN] at hb; exact hk3 hb
    have ec : c ≠ a := fun z => by subst z; rw [kd_sN] at hc; exact hk3 hc
    rw [kd_sN_ne eb] at hb
    rw [kd_sN_ne ec] at hc
    rw [fRne 40 b eb, fRne 40 c ec]
    exact h7 b c d hb hc
  · show (if b = a then 0 else fI N 2 b) = 0
    by_cases e : b = a
    · rw [if_pos e]
    · rw [if_neg e]
      rw [kd_sN_ne e] at hb
      exact h8 b hb
/-- an int of a visible int[] -/
theorem kx_ab_sA {E : kx_E} {N M : kx_M} {a i : Nat} {x : Int32} (h : kx_ab E N M) (ha : kd M a = 20) : kx_ab E (sA N a i x) (sA M a i x) := by
  obtain ⟨h1, h2, h3, h4, h5, h6, h7, h8⟩ := h
  refine ⟨h1, h2, fun b hb => ⟨(h3 b hb).1, fun j => ?_⟩, h4, h5, fun b hb => ?_, h7, h8⟩
  · show u2 (aI N) a i x b j = u2 (aI M) a i x b j
    unfold u2
    rw [(h3 b hb).2 j]
  · obtain ⟨d, q1, q2, q3, q4, q5⟩ := h6 b hb
    refine ⟨d, q1, q2, q3, q4, fun j hj => ?_⟩
    have hd : d ≠ a := fun z => by rw [z] at q3; omega
    have hb2 : kd M b = 3 := hb
    have hb' : b ≠ a := fun z => by rw [z] at hb2; omega
    show u2 (aI N) a i x d j = u2 (aI M) a i x b j
    unfold u2
    rw [if_neg (fun z => hd z.1), if_neg (fun z => hb' z.1)]
    exact q5 j hj
theorem kx_w2_good (E : kx_E) : kx_good E kx_cs kx_nw (kx_w2 E) := by
  have G := kx_w1_good E
  refine ⟨fun M H a ci r hcs hr h hk => ?_, fun M H a h hk => ?_, fun M H H1 a ci k r x hcs hr h hk hlt hrf ht z oq => ?_, fun M H H1 a ci k r x hcs hr h hk hlt hrf ht z oq => ?_, fun M H H1 ci r hr h ht z oq => ?_, fun M H h => ?_, fun M H a h hk => ?_, fun M H H1 a i x h hk ht z oq => ?_, fun M H H1 n h ht z oq => ?_, fun M H h => ?_⟩
  · obtain ⟨N, w, hab⟩ := h
    obtain ⟨n0, n2⟩ := kx_cs_of hcs
    have hl := vwCl_lt hr
    have hN := vwCl_N hr
    refine (G.1 N H a ci r rfl hr w (hab.kdN hk (by omega) (by omega))).to (fun k hk' => ?_)
    unfold kx_fv
    obtain ⟨e1, e2⟩ := hab.2.1 (20 * ci + k) a (by omega) (by omega)
    rw [e1, e2]
  · obtain ⟨N, w, hab⟩ := h
    refine G.2.1 N H a w (fun z => hk (hab.fresh z))
  · obtain ⟨N, w, hab⟩ := h
    obtain ⟨n0, n2⟩ := kx_cs_of hcs
    have hl := vwCl_lt hr
    have hN := vwCl_N hr
    have hab' := kx_ab_sI (i := 20 * ci + k) (a := a) (x := x) hab (by omega)
    refine ⟨_, G.2.2.1 N H H1 a ci k r x rfl hr w (hab.kdN hk (by omega) (by omega)) hlt hrf (ht.to (fun j hj => ?_)) z oq, hab'⟩
    unfold kx_fv
    obtain ⟨e1, e2⟩ := hab'.2.1 (20 * ci + j) a (show kd M a ≠ 0 by omega) (by omega)
    rw [e1, e2]
  · obtain ⟨N, w, hab⟩ := h
    obtain ⟨n0, n2⟩ := kx_cs_of hcs
    have hl := vwCl_lt hr
    have hN := vwCl_N hr
    have hab' := kx_ab_sR (i := 20 * ci + k) (a := a) (x := x) hab (by omega)
    refine ⟨_, G.2.2.2.1 N H H1 a ci k r x rfl hr w (hab.kdN hk (by omega) (by omega)) hlt hrf (ht.to (fun j hj => ?_)) z oq, hab'⟩
    unfold kx_fv
    obtain ⟨e1, e2⟩ := hab'.2.1 (20 * ci + j) a (show kd M a ≠ 0 by omega) (by omega)
    rw [e1, e2]
  · obtain ⟨N, w, hab⟩ := h
    have hl := vwCl_lt hr
    have hu : ci + 1 = kx_un (kx_nw ci) := by
      unfold kx_nw
      split
      · rename_i z; rw [z]; rfl
      · split
        · rename_i z; rw [z]; rfl
        · unfold kx_un
          rw [if_neg (by omega), if_neg (by omega)]
    have hn : kx_nw ci ≠ 1 ∧ kx_nw ci ≠ 3 ∧ kx_nw ci ≠ 21 := by
      unfold kx_nw
      split
      · omega
      · split <;> omega
    exact ⟨_, G.2.2.2.2.1 N H H1 ci r hr w ht z oq, kx_ab_sN hab (kx_w1_fresh w) hu hn.1 hn.2.1 hn.2.2⟩
  · obtain ⟨N, w, hab⟩ := h
    exact hab.fresh (kx_w1_fresh w)
  · obtain ⟨N, w, hab⟩ := h
    rw [G.2.2.2.2.2.2.1 N H a w (hab.kdN hk (by omega) (by omega))]
    obtain ⟨e1, e2⟩ := hab.2.2.1 a hk
    rw [e1, funext e2]
  · obtain ⟨N, w, hab⟩ := h
    refine ⟨_, G.2.2.2.2.2.2.2.1 N H H1 a i x w (hab.kdN hk (by omega) (by omega)) ?_ z oq, kx_ab_sA hab hk⟩
    obtain ⟨e1, e2⟩ := (kx_ab_sA (i := i) (x := x) hab hk).2.2.1 a hk
    rw [ht, funext e2]
    have e3 : ln N a = ln M a := (hab.2.2.1 a hk).1
    rw [e3]
  · obtain ⟨N, w, hab⟩ := h
    exact ⟨_, G.2.2.2.2.2.2.2.2.1 N H H1 n w ht z oq, kx_ab_sN hab (kx_w1_fresh w) rfl (by decide) (by decide) (by decide)⟩
  · obtain ⟨N, w, hab⟩ := h
    exact G.2.2.2.2.2.2.2.2.2 N H w
theorem kx_w2_rcv (E : kx_E) : kx_rcv E (kx_w2 E) := fun M H a ci r hr h hk => by
  obtain ⟨N, w, hab⟩ := h
  have hl := vwCl_lt hr
  exact kx_w1_rcv E N H a ci r hr w (hab.kdN hk (by omega) (by omega))
/-- from the lower level to the upper one -/
theorem kx_lift {E : kx_E} {y : MethodName} {ws : List Cond} {fr lo : Nat} {av : List Value} {M : kx_M} {k ks : Nat} {Q : kx_Q} (h : ∀ N : kx_M, kx_ab E N M → kd N (kx_e0 E) = 0 → kx_CT E (kx_w1 E) y ws fr lo av N k ks (fun v N1 => ∃ M1 : kx_M, kx_ab E N1 M1 ∧ Q v M1)) : kx_CT E (kx_w2 E) y ws fr lo av M k ks Q := by
  intro p e h1 h2 h3 s m args below h4 h5 h6 h7
  obtain ⟨ha, ⟨N, w, hab⟩, hk⟩ := h6
  have he : kd N (kx_e0 E) = 0 := by
    cases hz : kd N (kx_e0 E) with
    | zero => rfl
    | succ n =>
      have w4 := (w.2.2.2.1 (kx_e0 E) (by omega)).1
      have w9 := w.2.2.2.2.2.2.2.2.1
      omega
  obtain ⟨n, o, g1, g2, g3, ⟨v, N1, g4, g5, M1, g6, g7⟩, g8⟩ := h N hab he p e h1 h2 h3 s m args below h4 h5 ⟨ha, w, hk⟩ h7
  exact ⟨n, o, g1, g2, g3, ⟨v, M1, g4, ⟨N1, g5, g6⟩, g7⟩, g8⟩
/-- a call that is a function -/
theorem ok_fun {E : kx_E} {Wd : kx_M → Heap → Prop} {G : kx_K} {Qr : kx_Q} {pc n cnt kv k ks : Nat} {y : MethodName} {ws : List Cond} {fr lo : Nat} {f : List Value → kx_M → Prop × List Value × kx_M} (h : kx_ok G Qr pc (t_call (kx_CT E Wd y ws fr lo) n cnt kv))
    (hc : ∀ av M, (f av M).1 → kx_CT E Wd y ws fr lo av M k ks (fun v M1 => v.toList = (f av M).2.1 ∧ M1 = (f av M).2.2)) (hkv : kv = 0 ∨ ∀ av M, (f av M).1 → ∃ (a : Nat) (as : List Value), av = .ref a :: as ∧ kd M a = kv) : kx_ok G Qr pc (t_fun f k ks n cnt) := by
  intro K hK bc bs L S M hh
  obtain ⟨h1, h2, h3, h4, h5, h6⟩ := hh
  refine h K hK bc bs L S M ⟨h1, h2, ?_, k, ks, h3, h4, (hc _ _ h5).mono ?_⟩
  · rcases hkv with hkv | hkv
    · exact Or.inl hkv
    · obtain ⟨a, as, e1, e2⟩ := hkv _ _ h5
      refine Or.inr ⟨a, ?_, e2⟩
      have hl : (S.take cnt).length = as.length + 1 := by
        have := congrArg List.length e1
        rw [List.length_reverse] at this
        rw [this]; rfl
      have hc : cnt = as.length + 1 := by rw [List.length_take] at hl; omega
      have e3 : (S.take cnt).getLast? = some (.ref a) := by rw [← List.head?_reverse, e1]; rfl
      rw [List.getLast?_eq_getElem?, hl, Nat.add_sub_cancel, hc, List.getElem?_take_of_lt (by omega)] at e3
      rw [hc, Nat.add_sub_cancel]
      exact e3
  · intro v M1 hv
    rw [hv.1, hv.2]
    exact h6
