abbrev c2t_X1_init (E : kx_E) (av : List Value) (M : kx_M) (k ks : Nat) (Q : kx_Q) : Prop := kx_CT E (kx_w2 E) yX1_init wsX1_init 1 12 av M k ks Q
abbrev c2t_X1_of (E : kx_E) (av : List Value) (M : kx_M) (k ks : Nat) (Q : kx_Q) : Prop := kx_CT E (kx_w2 E) yX1_of wsX1_of 0 0 av M k ks Q
abbrev c2t_X1_put (E : kx_E) (av : List Value) (M : kx_M) (k ks : Nat) (Q : kx_Q) : Prop := kx_CT E (kx_w2 E) yX1_put wsX1_put 0 0 av M k ks Q
abbrev c2t_X1_putAll (E : kx_E) (av : List Value) (M : kx_M) (k ks : Nat) (Q : kx_Q) : Prop := kx_CT E (kx_w2 E) yX1_putAll wsX1_putAll 0 0 av M k ks Q
abbrev c2t_X1_total (E : kx_E) (av : List Value) (M : kx_M) (k ks : Nat) (Q : kx_Q) : Prop := kx_CT E (kx_w2 E) yX1_total wsX1_total 0 0 av M k ks Q
abbrev c2t_Jx4a65c_init_da8c8 (E : kx_E) (av : List Value) (M : kx_M) (k ks : Nat) (Q : kx_Q) : Prop := kx_CT E (kx_w2 E) yJx4a65c_init_da8c8 wsJx4a65c_init_da8c8 3 52 av M k ks Q
abbrev c2t_Jx4a65c_size_8abf5 (E : kx_E) (av : List Value) (M : kx_M) (k ks : Nat) (Q : kx_Q) : Prop := kx_CT E (kx_w2 E) yJx4a65c_size_8abf5 wsJx4a65c_size_8abf5 0 0 av M k ks Q
abbrev c2t_Jx4a65c_isEmpty_aae02 (E : kx_E) (av : List Value) (M : kx_M) (k ks : Nat) (Q : kx_Q) : Prop := kx_CT E (kx_w2 E) yJx4a65c_isEmpty_aae02 wsJx4a65c_isEmpty_aae02 0 0 av M k ks Q
abbrev c2t_Jx4a65c_get_915e3 (E : kx_E) (av : List Value) (M : kx_M) (k ks : Nat) (Q : kx_Q) : Prop := kx_CT E (kx_w2 E) yJx4a65c_get_915e3 wsJx4a65c_get_915e3 2 43 av M k ks Q
abbrev c2t_Jx4a65c_add_9ea2d (E : kx_E) (av : List Value) (M : kx_M) (k ks : Nat) (Q : kx_Q) : Prop := kx_CT E (kx_w2 E) yJx4a65c_add_9ea2d wsJx4a65c_add_9ea2d 6 137 av M k ks Q
abbrev c2t_Jx4a65c_remove_915e3 (E : kx_E) (av : List Value) (M : kx_M) (k ks : Nat) (Q : kx_Q) : Prop := kx_CT E (kx_w2 E) yJx4a65c_remove_915e3 wsJx4a65c_remove_915e3 2 50 av M k ks Q
theorem kx_int {i : Int32} {n : Nat} (h0 : 0 ≤ i) (h1 : i < Int32.ofNat n) (hn : n < 2147483648) : ∃ j : Nat, j < n ∧ i = nI j := by
  obtain ⟨j, hj, rfl⟩ := nI_of (Int32.not_lt.mpr h0)
  exact ⟨j, (nI_ltI hj (by omega)).mp h1, rfl⟩
theorem fI_sI_na' {M : kx_M} {i j a b : Nat} {x : Int32} (h : j ≠ i ∨ b ≠ a) : fI (sI M i a x) j b = fI M j b := if_neg (fun z => h.elim (fun w => w z.1) (fun w => w z.2))
theorem f2_X1_of_ok (E : kx_E) {av : List Value} {M : kx_M} (h : (f2_X1_of E av M).1) : c2t_X1_of E av M 0 0 (fun v M1 => v.toList = (f2_X1_of E av M).2.1 ∧ M1 = (f2_X1_of E av M).2.2) := by
  revert h
  unfold f2_X1_of
  split
  · intro h
    rename_i a c
    refine kx_lift (fun N hab he => ?_)
    obtain ⟨d, q1, q2, q3, q4, q5⟩ := hab.2.2.2.2.2.1 a h
    have hk := hab.kdN h (by decide) (Or.inl (by decide))
    refine (l1_X1_of hk q1 q2 q4).mono ?_
    rintro v N1 ⟨rfl, rfl⟩
    refine ⟨M, hab, ?_, rfl⟩
    by_cases hc : 0 ≤ c ∧ c < 3
    · rw [if_pos hc, if_pos hc, q5 _ (vp_lt (vp_of (n := 3) (by decide) hc.1 hc.2))]
      rfl
    · rw [if_neg hc, if_neg hc]
      rfl
  · intro h; exact h.elim
theorem f2_X1_put_ok (E : kx_E) {av : List Value} {M : kx_M} (h : (f2_X1_put E av M).1) : c2t_X1_put E av M 0 0 (fun v M1 => v.toList = (f2_X1_put E av M).2.1 ∧ M1 = (f2_X1_put E av M).2.2) := by
  revert h
  unfold f2_X1_put
  split
  · intro h
    rename_i a c x
    refine kx_lift (fun N hab he => ?_)
    obtain ⟨d, q1, q2, q3, q4, q5⟩ := hab.2.2.2.2.2.1 a h
    have hk := hab.kdN h (by decide) (Or.inl (by decide))
    refine (l1_X1_put hk q1 q2 q4).mono ?_
    rintro v N1 ⟨rfl, rfl⟩
    by_cases hc : 0 ≤ c ∧ c < 3
    · rw [if_pos hc, if_pos hc]
      exact ⟨_, kx_ab_put hab h q1 (vp_lt (vp_of (n := 3) (by decide) hc.1 hc.2)), rfl, rfl⟩
    · rw [if_neg hc, if_neg hc]
      exact ⟨_, hab, rfl, rfl⟩
  · intro h; exact h.elim
theorem f2_X1_putAll_ok (E : kx_E) {av : List Value} {M : kx_M} (h : (f2_X1_putAll E av M).1) : c2t_X1_putAll E av M 0 0 (fun v M1 => v.toList = (f2_X1_putAll E av M).2.1 ∧ M1 = (f2_X1_putAll E av M).2.2) := by
  revert h
  unfold f2_X1_putAll
  split
  · intro h
    rename_i a x
    refine kx_lift (fun N hab he => ?_)
    obtain ⟨d, q1, q2, q3, q4, q5⟩ := hab.2.2.2.2.2.1 a h
    have hk := hab.kdN h (by decide) (Or.inl (by decide))
    refine (l1_X1_putAll hk q1 q2 q4).mono ?_
    rintro v N1 ⟨rfl, rfl⟩
    exact ⟨_, kx_ab_put (kx_ab_put (kx_ab_put hab h q1 (by decide)) h q1 (by decide)) h q1 (by decide), rfl, rfl⟩
  · intro h; exact h.elim
theorem f2_X1_total_ok (E : kx_E) {av : List Value} {M : kx_M} (h : (f2_X1_total E av M).1) : c2t_X1_total E av M 0 0 (fun v M1 => v.toList = (f2_X1_total E av M).2.1 ∧ M1 = (f2_X1_total E av M).2.2) := by
  revert h
  unfold f2_X1_total
  split
  · intro h
    rename_i a
    refine kx_lift (fun N hab he => ?_)
    obtain ⟨d, q1, q2, q3, q4, q5⟩ := hab.2.2.2.2.2.1 a h
    have hk := hab.kdN h (by decide) (Or.inl (by decide))
    refine (l1_X1_total hk q1 q2 q4).mono ?_
    rintro v N1 ⟨rfl, rfl⟩
    refine ⟨M, hab, ?_, rfl⟩
    rw [q5 0 (by decide), q5 1 (by decide), q5 2 (by decide)]
    rfl
  · intro h; exact h.elim
theorem f2_X1_init_ok (E : kx_E) {av : List Value} {M : kx_M} (h : (f2_X1_init E av M).1) : c2t_X1_init E av M 1 3 (fun v M1 => v.toList = (f2_X1_init E av M).2.1 ∧ M1 = (f2_X1_init E av M).2.2) := by
  revert h
  unfold f2_X1_init
  split
  · intro h
    rename_i a x
    refine kx_lift (fun N hab he => ?_)
    have hk : kd N a = 3 := by rw [(hab.1 a (by omega)).1, h]; rfl
    refine (l1_X1_init hk).mono ?_
    rintro v N1 ⟨rfl, d, hd, rfl⟩
    have hMd := hab.fresh hd
    refine ⟨_, kx_ab_bc (kx_ab_hid (k := 20) (n := 3) hab hd) h kd_sN hMd ln_sN (fun b hb e => ?_), rfl, rfl⟩
    have hbd : b ≠ d := fun z => by rw [z] at hb; omega
    rw [fR_sN_ne 40 hbd] at e
    obtain ⟨q, q1, q2, -⟩ := hab.2.2.2.2.2.1 b hb
    rw [e] at q1
    cases q1
    omega
  · intro h; exact h.elim
theorem f2_X1_of_rc (E : kx_E) {av : List Value} {M : kx_M} (h : (f2_X1_of E av M).1) : ∃ (a : Nat) (as : List Value), av = .ref a :: as ∧ kd M a = 3 := by
  unfold f2_X1_of at h
  split at h
  · exact ⟨_, _, rfl, h⟩
  · exact h.elim
theorem f2_X1_put_rc (E : kx_E) {av : List Value} {M : kx_M} (h : (f2_X1_put E av M).1) : ∃ (a : Nat) (as : List Value), av = .ref a :: as ∧ kd M a = 3 := by
  unfold f2_X1_put at h
  split at h
  · exact ⟨_, _, rfl, h⟩
  · exact h.elim
theorem f2_X1_putAll_rc (E : kx_E) {av : List Value} {M : kx_M} (h : (f2_X1_putAll E av M).1) : ∃ (a : Nat) (as : List Value), av = .ref a :: as ∧ kd M a = 3 := by
  unfold f2_X1_putAll at h
  split at h
  · exact ⟨_, _, rfl, h⟩
  · exact h.elim
theorem f2_X1_total_rc (E : kx_E) {av : List Value} {M : kx_M} (h : (f2_X1_total E av M).1) : ∃ (a : Nat) (as : List Value), av = .ref a :: as ∧ kd M a = 3 := by
  unfold f2_X1_total at h
  split at h
  · exact ⟨_, _, rfl, h⟩
  · exact h.elim
theorem f2_X1_init_rc (E : kx_E) {av : List Value} {M : kx_M} (h : (f2_X1_init E av M).1) : ∃ (a : Nat) (as : List Value), av = .ref a :: as ∧ kd M a = 13 := by
  unfold f2_X1_init at h
  split at h
  · exact ⟨_, _, rfl, h⟩
  · exact h.elim
theorem f2_Jx4a65c_init_da8c8_ok (E : kx_E) {av : List Value} {M : kx_M} (h : (f2_Jx4a65c_init_da8c8 E av M).1) : c2t_Jx4a65c_init_da8c8 E av M 0 0 (fun v M1 => v.toList = (f2_Jx4a65c_init_da8c8 E av M).2.1 ∧ M1 = (f2_Jx4a65c_init_da8c8 E av M).2.2) := by
  revert h
  unfold f2_Jx4a65c_init_da8c8
  split
  · intro h
    rename_i a
    refine kx_lift (fun N hab he => ?_)
    have hk : kd N a = 1 := by rw [(hab.1 a (by omega)).1, h]; rfl
    refine (l1_init hk).mono ?_
    rintro v N1 ⟨rfl, rfl⟩
    refine ⟨_, kx_ab_al (d := kx_e0 E) (L := []) hab (Or.inr h) rfl rfl (fun i b hi hib => ?_) (fun i b hib => ?_) rfl (fun _ _ => rfl) (fun _ _ _ _ => rfl) (if_pos ⟨rfl, rfl⟩) ?_ (by decide) (fun x hx => absurd hx List.not_mem_nil) (Or.inl ⟨rfl, rfl⟩), rfl, rfl⟩
    · exact if_neg (fun z => hi z.1)
    · exact if_neg (fun z => hib.elim (fun w => w z.1) (fun w => w z.2))
    · show u2 (fI N) 0 a 0 2 a = _
      unfold u2
      rw [if_neg (fun z => absurd z.1 (by decide))]
      exact hab.2.2.2.2.2.2.2 a h
  · intro h; exact h.elim
theorem f2_Jx4a65c_size_8abf5_ok (E : kx_E) {av : List Value} {M : kx_M} (h : (f2_Jx4a65c_size_8abf5 E av M).1) : c2t_Jx4a65c_size_8abf5 E av M 0 0 (fun v M1 => v.toList = (f2_Jx4a65c_size_8abf5 E av M).2.1 ∧ M1 = (f2_Jx4a65c_size_8abf5 E av M).2.2) := by
  revert h
  unfold f2_Jx4a65c_size_8abf5
  split
  · intro h
    rename_i a
    refine kx_lift (fun N hab he => ?_)
    obtain ⟨d, q1, q2, q3, q4, q5⟩ := hab.2.2.2.1 a h
    have hk := hab.kdN h (by decide) (Or.inl (by decide))
    refine (l1_size hk).mono ?_
    rintro v N1 ⟨rfl, rfl⟩
    exact ⟨M, hab, by rw [q2]; rfl, rfl⟩
  · intro h; exact h.elim
theorem f2_Jx4a65c_isEmpty_aae02_ok (E : kx_E) {av : List Value} {M : kx_M} (h : (f2_Jx4a65c_isEmpty_aae02 E av M).1) : c2t_Jx4a65c_isEmpty_aae02 E av M 0 0 (fun v M1 => v.toList = (f2_Jx4a65c_isEmpty_aae02 E av M).2.1 ∧ M1 = (f2_Jx4a65c_isEmpty_aae02 E av M).2.2) := by
  revert h
  unfold f2_Jx4a65c_isEmpty_aae02
  split
  · intro h
    rename_i a
    refine kx_lift (fun N hab he => ?_)
    obtain ⟨d, q1, q2, q3, q4, q5⟩ := hab.2.2.2.1 a h
    have hk := hab.kdN h (by decide) (Or.inl (by decide))
    refine (l1_isEmpty hk).mono ?_
    rintro v N1 ⟨rfl, rfl⟩
    refine ⟨M, hab, ?_, rfl⟩
    rw [q2]
    by_cases hz : (mL M a).length = 0
    · rw [if_pos hz, hz]; rfl
    · rw [if_neg hz, if_neg (fun z => hz ((nI_eq (a := (mL M a).length) (b := 0) (by omega) (by omega)).mp z) : ¬ Int32.ofNat (mL M a).length = 0)]
      rfl
  · intro h; exact h.elim
theorem f2_Jx4a65c_get_915e3_ok (E : kx_E) {av : List Value} {M : kx_M} (h : (f2_Jx4a65c_get_915e3 E av M).1) : c2t_Jx4a65c_get_915e3 E av M 0 0 (fun v M1 => v.toList = (f2_Jx4a65c_get_915e3 E av M).2.1 ∧ M1 = (f2_Jx4a65c_get_915e3 E av M).2.2) := by
  revert h
  unfold f2_Jx4a65c_get_915e3
  split
  · intro h
    rename_i a i
    obtain ⟨h, h0, h1⟩ := h
    refine kx_lift (fun N hab he => ?_)
    obtain ⟨d, q1, q2, q3, q4, q5⟩ := hab.2.2.2.1 a h
    have hk := hab.kdN h (by decide) (Or.inl (by decide))
    obtain ⟨j, hj, rfl⟩ := kx_int h0 h1 (by omega)
    rcases q5 with q5 | ⟨r1, r2, r3, r4, r5⟩
    · rw [q5.2] at hj; exact absurd hj (Nat.not_lt_zero _)
    · refine (l1_get hk q1 r1 hj r4 (by omega) q2).mono ?_
      rintro v N1 ⟨rfl, rfl⟩
      refine ⟨M, hab, ?_, rfl⟩
      rw [r5 j hj, nI_clamp (by omega)]
      rfl
  · intro h; exact h.elim
theorem f2_Jx4a65c_remove_915e3_ok (E : kx_E) {av : List Value} {M : kx_M} (h : (f2_Jx4a65c_remove_915e3 E av M).1) : c2t_Jx4a65c_remove_915e3 E av M 0 0 (fun v M1 => v.toList = (f2_Jx4a65c_remove_915e3 E av M).2.1 ∧ M1 = (f2_Jx4a65c_remove_915e3 E av M).2.2) := by
  revert h
  unfold f2_Jx4a65c_remove_915e3
  split
  · intro h
    rename_i a i
    obtain ⟨h, h0, h1⟩ := h
    refine kx_lift (fun N hab he => ?_)
    obtain ⟨d, q1, q2, q3, q4, q5⟩ := hab.2.2.2.1 a h
    have hk := hab.kdN h (by decide) (Or.inl (by decide))
    obtain ⟨j, hj, rfl⟩ := kx_int h0 h1 (by omega)
    rcases q5 with q5 | ⟨r1, r2, r3, r4, r5⟩
    · rw [q5.2] at hj; exact absurd hj (Nat.not_lt_zero _)
    · have hel : ∀ i b, i < (mL M a).length → aR N d i = some b → 1 ≤ kd N b ∧ kd N b ≤ 11 := fun i b hi hb => by
        rw [r5 i hi] at hb
        have := q4 b (List.mem_of_getElem? hb)
        rw [hab.kdN rfl (by omega) (Or.inl this.2)]
        omega
      refine (l1_remove hk q1 r1 hj r4 (by omega) q2 hel).mono ?_
      rintro v N1 ⟨rfl, rfl⟩
      have hde : d ≠ kx_e0 E := fun z => by rw [z, he] at r1; omega
      have eaR : ∀ b, b ≠ d → aR (kx_fr N a d j (mL M a).length) b = aR N b := fun b hb => by
        unfold kx_fr kx_fr0
        split
        · exact funext fun k => if_neg (fun z => hb z.1)
        · exact funext fun k => (if_neg (fun z => hb z.1)).trans (if_neg (fun z => hb z.1))
      have eb : kd (kx_fr N a d j (mL M a).length) = kd N ∧ ln (kx_fr N a d j (mL M a).length) = ln N ∧ fR (kx_fr N a d j (mL M a).length) = fR N ∧ aI (kx_fr N a d j (mL M a).length) = aI N ∧ fI (kx_fr N a d j (mL M a).length) = fI (kx_fr0 N a (mL M a).length) := by
        unfold kx_fr
        split <;> exact ⟨rfl, rfl, rfl, rfl, rfl⟩
      obtain ⟨b1, b2, b3, b4, b5⟩ := eb
      have hA := kx_ab_al (N1 := kx_fr N a d j (mL M a).length) (d := d) (L := (mL M a).eraseIdx j) hab (Or.inl h) b1 b2 (fun i b hi hib => ?_) (fun i b _ => by rw [b3]) b4 (fun b hb => eaR b (hb.resolve_right hde)) (fun b hb hb1 e => (hab.2.2.2.2.1 b a d hb1 h e q1).resolve_left hb) (by rw [b3]; exact q1) ?_ ?_ (fun x hx => q4 x (List.mem_of_mem_eraseIdx hx)) (Or.inr ⟨r1, r2, r3, ?_, fun k hk => ?_⟩)
      · have e : sKd (sL M a ((mL M a).eraseIdx j)) a 1 = sL M a ((mL M a).eraseIdx j) := sKd_self h
        rw [e] at hA
        refine ⟨_, hA, ?_, ?_⟩
        · rw [r5 j hj, nI_clamp (by omega)]
          rfl
        · rw [nI_clamp (by omega)]
      · rw [b5]
        show u2 (u2 (fI N) 0 a _) 2 a _ i b = _
        unfold u2
        rw [if_neg (fun z => hib.elim (fun w => w z.1) (fun w => w z.2)), if_neg (fun z => hi z.1)]
      · rw [b5, List.length_eraseIdx_of_lt hj]
        exact if_pos ⟨rfl, rfl⟩
      · rw [List.length_eraseIdx_of_lt hj]; omega
      · rw [List.length_eraseIdx_of_lt hj]; omega
      · rw [List.length_eraseIdx_of_lt hj] at hk
        rw [List.getElem?_eraseIdx]
        unfold kx_fr kx_fr0
        by_cases hc : (mL M a).length - 1 ≤ j
        · rw [if_pos hc]
          show u2 (aR N) d _ none d k = _
          unfold u2
          rw [if_neg (by omega), if_pos (by omega)]
          exact r5 k (by omega)
        · rw [if_neg hc]
          show (if d = d ∧ k = (mL M a).length - 1 then none else if d = d ∧ j ≤ k ∧ k < j + ((mL M a).length - 1 - j) then aR N d (j + 1 + (k - j)) else aR N d k) = _
          rw [if_neg (by omega)]
          by_cases hkj : k < j
          · rw [if_neg (by omega), if_pos hkj]
            exact r5 k (by omega)
          · rw [if_pos (by omega), if_neg hkj, show j + 1 + (k - j) = k + 1 by omega]
            exact r5 (k + 1) (by omega)
  · intro h; exact h.elim
theorem f2_Jx4a65c_add_9ea2d_ok (E : kx_E) {av : List Value} {M : kx_M} (h : (f2_Jx4a65c_add_9ea2d E av M).1) : c2t_Jx4a65c_add_9ea2d E av M 1 1500 (fun v M1 => v.toList = (f2_Jx4a65c_add_9ea2d E av M).2.1 ∧ M1 = (f2_Jx4a65c_add_9ea2d E av M).2.2) := by
  revert h
  unfold f2_Jx4a65c_add_9ea2d
  split
  · intro h
    rename_i a x
    obtain ⟨h, h0, hx1, hx2⟩ := h
    refine kx_lift (fun N hab he => ?_)
    obtain ⟨d, q1, q2, q3, q4, q5⟩ := hab.2.2.2.1 a h
    have hk := hab.kdN h (by decide) (Or.inl (by decide))
    have hxM : x ≠ a := fun z => by rw [z] at hx1; omega
    have hxN : 1 ≤ kd N x ∧ kd N x ≤ 11 := by rw [hab.kdN rfl (by omega) (Or.inl hx2)]; omega
    have eK : sKd (sL M a (mL M a ++ [x])) a 1 = sL M a (mL M a ++ [x]) := sKd_self h
    have hL : (mL M a ++ [x]).length = (mL M a).length + 1 := by rw [List.length_append]; rfl
    have hmem : ∀ y ∈ mL M a ++ [x], 2 ≤ kd M y ∧ kd M y ≤ 11 := fun y hy => by
      rcases List.mem_append.mp hy with hy | hy
      · exact q4 y hy
      · rw [List.mem_singleton.mp hy]; exact ⟨hx1, hx2⟩
    have hlast : ∀ k, k < (mL M a).length → (mL M a ++ [x])[k]? = (mL M a)[k]? := fun k hk => List.getElem?_append_left hk
    have hend : (mL M a ++ [x])[(mL M a).length]? = some x := by rw [List.getElem?_append_right (Nat.le_refl _), Nat.sub_self]; rfl
    rcases q5 with ⟨q5, q6⟩ | ⟨r1, r2, r3, r4, r5⟩
    · subst q5
      have hz : fI N 2 a = 0 := by rw [q2, q6]; rfl
      refine (l1_adde hk q1 hz hxN (by decide)).mono ?_
      rintro v N1 ⟨rfl, q, ⟨hq, hqe⟩, rfl⟩
      have hMq := hab.fresh hq
      have hab2 := kx_ab_hid (k := 21) (n := 10) hab hq
      have hA := kx_ab_al (N1 := sI (sQ (sR (sN (sI N 0 a (fI N 0 a + 1)) q 21 10) 1 a (some q)) q 0 (some x)) 2 a 1) (d := q) (L := mL M a ++ [x]) hab2 (Or.inl h) rfl rfl (fun i b hi hib => ?_) (fun i b hib => ?_) rfl (fun b hb => ?_) (fun b hb hb1 e => ?_) ?_ ?_ (by omega) hmem (Or.inr ⟨kd_sN, hMq, ?_, ?_, fun k hk => ?_⟩)
      · rw [eK] at hA
        exact ⟨_, hA, rfl, rfl⟩
      · rw [fI_sI_na' hib]
        have e0 : (if i = 0 ∧ b = a then fI N 0 a + 1 else fI N i b) = fI N i b := if_neg (fun z => hi z.1)
        show (if b = q then 0 else (if i = 0 ∧ b = a then fI N 0 a + 1 else fI N i b)) = (if b = q then 0 else fI N i b)
        rw [e0]
      · show u2 _ 1 a (some q) i b = _
        unfold u2
        rw [if_neg (fun z => hib.elim (fun w => w z.1) (fun w => w z.2))]
        rfl
      · exact funext fun k => if_neg (fun z => hb.elim (fun w => w z.1) (fun w => hqe w))
      · exfalso
        have hbq : b ≠ q := fun z => by rw [z] at hb1; omega
        rw [fR_sN_ne 1 hbq] at e
        obtain ⟨d2, p1, p2, p3, p4, p5⟩ := hab.2.2.2.1 b hb1
        cases e.symm.trans p1
        rcases p5 with p5 | p5
        · exact hqe p5.1
        · omega
      · exact if_pos ⟨rfl, rfl⟩
      · rw [hL, q6]; exact if_pos ⟨rfl, rfl⟩
      · rw [ln_sN]; omega
      · rw [ln_sN, hL, q6]; decide
      · rw [hL, q6] at hk
        have hk0 : k = 0 := by simpa using hk
        subst hk0
        rw [q6]
        exact if_pos ⟨rfl, rfl⟩
    · by_cases hlt : (mL M a).length < ln N d
      · refine (l1_add hk q1 r1 hlt (by omega) q2 hxN (k := 1) (ks := 1500)).mono ?_
        rintro v N1 ⟨rfl, rfl⟩
        have hde : d ≠ kx_e0 E := fun z => by rw [z, he] at r1; omega
        have hA := kx_ab_al (N1 := sI (sQ (sI N 0 a (fI N 0 a + 1)) d (mL M a).length (some x)) 2 a (nI ((mL M a).length + 1))) (d := d) (L := mL M a ++ [x]) hab (Or.inl h) rfl rfl (fun i b hi hib => ?_) (fun _ _ _ => rfl) rfl (fun b hb => funext fun k => if_neg (fun z => hb.elim (fun w => w z.1) (fun w => hde w))) (fun b hb hb1 e => (hab.2.2.2.2.1 b a d hb1 h e q1).resolve_left hb) q1 (by rw [hL]; exact if_pos ⟨rfl, rfl⟩) (by omega) hmem (Or.inr ⟨r1, r2, r3, by omega, fun k hk => ?_⟩)
        · rw [eK] at hA
          exact ⟨_, hA, rfl, rfl⟩
        · rw [fI_sI_na' hib]
          show u2 (fI N) 0 a _ i b = _
          unfold u2
          rw [if_neg (fun z => hi z.1)]
        · show u2 (aR N) d _ (some x) d k = _
          unfold u2
          by_cases hkl : k = (mL M a).length
          · rw [if_pos ⟨rfl, hkl⟩, hkl, hend]
          · rw [if_neg (fun z => hkl z.2), hlast k (by omega)]
            exact r5 k (by omega)
      · have hln : ln N d = (mL M a).length := by omega
        have hnl : kx_nl (ln N d) ≤ 1500 ∧ ln N d < kx_nl (ln N d) := by unfold kx_nl; split <;> omega
        have hel : ∀ i b, i < ln N d → aR N d i = some b → 1 ≤ kd N b ∧ kd N b ≤ 11 := fun i b hi hb => by
          rw [r5 i (by omega)] at hb
          have := q4 b (List.mem_of_getElem? hb)
          rw [hab.kdN rfl (by omega) (Or.inl this.2)]
          omega
        refine (l1_addg hk q1 r1 r3.1 (by omega) hel (by rw [hln]; exact q2) hxN hnl.1).mono ?_
        rintro v N1 ⟨rfl, q, ⟨hq, hqe⟩, rfl⟩
        have hMq := hab.fresh hq
        have hdq : d ≠ q := fun z => by rw [z] at r1; omega
        have hab2 := kx_ab_hid (k := 21) (n := kx_nl (ln N d)) hab hq
        have hA := kx_ab_al (N1 := sI (sQ (sR (kx_cp (sN (sI N 0 a (fI N 0 a + 1)) q 21 (kx_nl (ln N d))) d q 0 0 (ln N d)) 1 a (some q)) q (ln N d) (some x)) 2 a (nI (ln N d + 1))) (d := q) (L := mL M a ++ [x]) hab2 (Or.inl h) rfl rfl (fun i b hi hib => ?_) (fun i b hib => ?_) rfl (fun b hb => ?_) (fun b hb hb1 e => ?_) ?_ ?_ (by omega) hmem (Or.inr ⟨kd_sN, hMq, ?_, ?_, fun k hk => ?_⟩)
        · rw [eK] at hA
          exact ⟨_, hA, rfl, rfl⟩
        · rw [fI_sI_na' hib]
          have e0 : (if i = 0 ∧ b = a then fI N 0 a + 1 else fI N i b) = fI N i b := if_neg (fun z => hi z.1)
          show (if b = q then 0 else (if i = 0 ∧ b = a then fI N 0 a + 1 else fI N i b)) = (if b = q then 0 else fI N i b)
          rw [e0]
        · show u2 _ 1 a (some q) i b = _
          unfold u2
          rw [if_neg (fun z => hib.elim (fun w => w z.1) (fun w => w z.2))]
          rfl
        · have hbq : b ≠ q := fun z => hb.elim (fun w => w z) (fun w => hqe w)
          exact funext fun k => (if_neg (fun z => hbq z.1)).trans (if_neg (fun z => hbq z.1))
        · exfalso
          have hbq : b ≠ q := fun z => by rw [z] at hb1; omega
          rw [fR_sN_ne 1 hbq] at e
          obtain ⟨d2, p1, p2, p3, p4, p5⟩ := hab.2.2.2.1 b hb1
          cases e.symm.trans p1
          rcases p5 with p5 | p5
          · exact hqe p5.1
          · omega
        · exact if_pos ⟨rfl, rfl⟩
        · rw [hL, ← hln]; exact if_pos ⟨rfl, rfl⟩
        · rw [ln_sN]; omega
        · rw [ln_sN, hL]; omega
        · show (if q = q ∧ k = ln N d then some x else if q = q ∧ 0 ≤ k ∧ k < 0 + ln N d then (if d = q then none else aR N d (0 + (k - 0))) else _) = _
          by_cases hkl : k = ln N d
          · rw [if_pos ⟨rfl, hkl⟩, hkl, hln, hend]
          · rw [if_neg (fun z => hkl z.2), if_pos ⟨rfl, Nat.zero_le _, by omega⟩, if_neg hdq, hlast k (by omega), Nat.zero_add, Nat.sub_zero]
            exact r5 k (by omega)
  · intro h; exact h.elim
theorem f2_Jx4a65c_init_da8c8_rc (E : kx_E) {av : List Value} {M : kx_M} (h : (f2_Jx4a65c_init_da8c8 E av M).1) : ∃ (a : Nat) (as : List Value), av = .ref a :: as ∧ kd M a = 12 := by
  unfold f2_Jx4a65c_init_da8c8 at h
  split at h
  · exact ⟨_, _, rfl, h⟩
  · exact h.elim
theorem f2_Jx4a65c_size_8abf5_rc (E : kx_E) {av : List Value} {M : kx_M} (h : (f2_Jx4a65c_size_8abf5 E av M).1) : ∃ (a : Nat) (as : List Value), av = .ref a :: as ∧ kd M a = 1 := by
  unfold f2_Jx4a65c_size_8abf5 at h
  split at h
  · exact ⟨_, _, rfl, h⟩
  · exact h.elim
theorem f2_Jx4a65c_isEmpty_aae02_rc (E : kx_E) {av : List Value} {M : kx_M} (h : (f2_Jx4a65c_isEmpty_aae02 E av M).1) : ∃ (a : Nat) (as : List Value), av = .ref a :: as ∧ kd M a = 1 := by
  unfold f2_Jx4a65c_isEmpty_aae02 at h
  split at h
  · exact ⟨_, _, rfl, h⟩
  · exact h.elim
theorem f2_Jx4a65c_get_915e3_rc (E : kx_E) {av : List Value} {M : kx_M} (h : (f2_Jx4a65c_get_915e3 E av M).1) : ∃ (a : Nat) (as : List Value), av = .ref a :: as ∧ kd M a = 1 := by
  unfold f2_Jx4a65c_get_915e3 at h
  split at h
  · exact ⟨_, _, rfl, h.1⟩
  · exact h.elim
theorem f2_Jx4a65c_remove_915e3_rc (E : kx_E) {av : List Value} {M : kx_M} (h : (f2_Jx4a65c_remove_915e3 E av M).1) : ∃ (a : Nat) (as : List Value), av = .ref a :: as ∧ kd M a = 1 := by
  unfold f2_Jx4a65c_remove_915e3 at h
  split at h
  · exact ⟨_, _, rfl, h.1⟩
  · exact h.elim
theorem f2_Jx4a65c_add_9ea2d_rc (E : kx_E) {av : List Value} {M : kx_M} (h : (f2_Jx4a65c_add_9ea2d E av M).1) : ∃ (a : Nat) (as : List Value), av = .ref a :: as ∧ kd M a = 1 := by
  unfold f2_Jx4a65c_add_9ea2d at h
  split at h
  · exact ⟨_, _, rfl, h.1⟩
  · exact h.elim
