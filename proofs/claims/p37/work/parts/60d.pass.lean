/-- lists that have at most lost some -/
def pSub (M N : kx_M) : Prop := kd N = kd M ∧ fR N = fR M ∧ ∀ x, (∀ y ∈ mL N x, y ∈ mL M x) ∧ (mL N x).length ≤ (mL M x).length
theorem pHour_sub {M N : kx_M} {m : Nat} (h : pSub M N) (hs : fI N 213 m = fI M 213 m) (g : pHour M m) : pHour N m := by
  obtain ⟨h1, h2, h3⟩ := h
  obtain ⟨⟨a1, t, a2, a3, a4, a5⟩, ⟨-, u, b2, b3, b4, b5⟩, ⟨-, v, c2, c3, c4, c5⟩, ⟨-, w, d2, d3, d4, d5⟩, e⟩ := g
  have k1 : kd N m = 11 := by rw [h1, a1]
  refine ⟨⟨k1, t, by rw [h2, a2], by rw [h1, a3], Nat.le_trans (h3 t).2 a4, fun g hg => ?_⟩, ⟨k1, u, by rw [h2, b2], by rw [h1, b3], Nat.le_trans (h3 u).2 b4, fun g hg => ?_⟩, ⟨k1, v, by rw [h2, c2], by rw [h1, c3], Nat.le_trans (h3 v).2 c4, fun g hg => ?_⟩, ⟨k1, w, by rw [h2, d2], by rw [h1, d3], Nat.le_trans (h3 w).2 d4, fun g hg => ?_⟩, by rw [hs, e]⟩
  · rw [h1, h2]; exact a5 g ((h3 t).1 g hg)
  · rw [h1, h2]; exact b5 g ((h3 u).1 g hg)
  · rw [h1]; exact c5 g ((h3 v).1 g hg)
  · rw [h1, h2]; exact d5 g ((h3 w).1 g hg)
theorem pSub_rail1 (m : Nat) (M : kx_M) : pSub M (eRail1 m M) := by
  unfold eRail1
  refine ⟨by rw [kd_eUnload, kd_sL], by rw [fR_eUnload, fR_sL], fun x => ?_⟩
  rw [mL_eUnload]
  by_cases hx : x = rf M 206 m
  · rw [hx, mL_sL_eq]
    exact ⟨fun y hy => List.mem_of_mem_eraseIdx hy, List.length_eraseIdx_le _ _⟩
  · rw [mL_sL_ne _ _ _ _ hx]
    exact ⟨fun y hy => hy, Nat.le_refl _⟩
theorem fI_rail1 (m : Nat) (M : kx_M) (i x : Nat) (hi : i ≠ 215) : fI (eRail1 m M) i x = fI M i x := by
  unfold eRail1 eUnload
  split
  · rw [fI_ePut, fI_sL]
  · split
    · rw [fI_ePut, fI_sL]
    · rw [fI_sI_ne _ _ _ _ _ _ hi, fI_sL]
theorem pSub.rfl {M : kx_M} : pSub M M := ⟨Eq.refl _, Eq.refl _, fun _ => ⟨fun _ h => h, Nat.le_refl _⟩⟩
theorem pSub.tr {M N K : kx_M} (h : pSub M N) (g : pSub N K) : pSub M K := ⟨g.1.trans h.1, g.2.1.trans h.2.1, fun x => ⟨fun y hy => (h.2.2 x).1 y ((g.2.2 x).1 y hy), Nat.le_trans (g.2.2 x).2 (h.2.2 x).2⟩⟩
theorem pSub_railN (m : Nat) (M0 : kx_M) : ∀ (n : Nat) (s : kx_M × Int32), pSub s.1 (eRailN m n M0 s).1 ∧ ∀ i x, i ≠ 215 → fI (eRailN m n M0 s).1 i x = fI s.1 i x := by
  intro n
  induction n with
  | zero => exact fun s => ⟨pSub.rfl, fun _ _ _ => Eq.refl _⟩
  | succ n ih =>
    intro s
    unfold eRailN
    split
    · exact ⟨pSub.rfl, fun _ _ _ => Eq.refl _⟩
    · obtain ⟨a, b⟩ := ih (eRail1 m s.1, s.2 + 1)
      exact ⟨(pSub_rail1 m s.1).tr a, fun i x hi => (b i x hi).trans (fI_rail1 m s.1 i x hi)⟩
theorem pHour_one {M : kx_M} {m : Nat} (h : pHour M m) : pHour (eRailN m 2 (eHour m M) (eHour m M, 0)).1 m := by
  obtain ⟨a, b⟩ := pSub_railN m (eHour m M) 2 (eHour m M, 0)
  have hS : pSub M (eHour m M) := ⟨kd_eHour _ _, fR_eHour _ _, fun x => by rw [mL_eHour]; exact ⟨fun _ h => h, Nat.le_refl _⟩⟩
  exact pHour_sub (hS.tr a) ((b 213 m (by decide)).trans (fI_eHour_213 m M m)) h
set_option maxRecDepth 16000 in
theorem f2_X9_pass_ok (E : kx_E) {av : List Value} {M : kx_M} (h : (f2_X9_pass E av M).1) : c2t_X9_pass E av M 0 0 (fun v M1 => v.toList = (f2_X9_pass E av M).2.1 ∧ M1 = (f2_X9_pass E av M).2.2) := by
  revert h
  unfold f2_X9_pass
  split
  · rename_i m x lt
    intro h
    obtain ⟨h1, h8, h9, h10, h11⟩ := h
    have k1 := h1.1.1
    have e8 : (x < 1) = False := eq_false (Int32.not_lt.mpr h8)
    have e9 : (48 < x) = False := eq_false (Int32.not_lt.mpr h9)
    have e10 : (lt < 0) = False := eq_false (Int32.not_lt.mpr h10)
    have e11 : (9 < lt) = False := eq_false (Int32.not_lt.mpr h11)
    have hx1 : 1 ≤ x.toInt := Int32.le_iff_toInt_le.mp h8
    have hx2 : x.toInt ≤ 48 := Int32.le_iff_toInt_le.mp h9
    have hcl : ((x.toNatClampNeg : Nat) : Int) = x.toInt := Int.toNat_of_nonneg (by omega)
    have hxn : x = nI x.toNatClampNeg := by
      refine Int32.toInt_inj.mp ?_
      show _ = (Int32.ofNat _).toInt
      rw [Int32.toInt_ofNat_of_lt (by omega), hcl]
    refine en_X9_pass E (Nat.le_of_ble_eq_true rfl) (fun G hG => kx_run_ok hG (kx_in [40]) 60 _ _ _ _ _ _ ?_)
    simp only [kx_run_s, kx_run_z, kx_in, kx_beq, decide_true, decide_false, cond_true, cond_false, t_push, t_il, t_ll, t_al, t_is, t_ls, t_as, t_inc, t_bin, t_dv, t_lbin, t_lcmp, t_itl, t_dup, t_pop, t_dupx, t_go, t_gk, cutL, t_if, t_ic, t_nul, t_acmp, t_gI, t_gR, t_pI, t_pZ, t_pR, t_new, t_nwa, t_ial, t_ias, t_aln, t_cst, t_sln, t_sld, t_iret, t_zret, t_lret, t_aret, t_vret, t_no, t_call, t_fun, t_sw, sw_to0, t_oin, t_mm, t_qal, t_qas, t_qln, t_nwq, t_gcl, t_acp, lk, up1, cl1, up2, cl2, kx_c2, lv_args, kx_sum, kx_isr_r, kx_isr_n, kx_isr_v, kx_ex_r, kx_ex_n, kx_ex_v, kx_ex2_r, kx_ex2_n, kx_ex2_v, va_rf_s, va_rf_n, Value.ref.injEq, reduceCtorEq, exists_eq_left', exists_eq_left, exists_eq', exists_eq, true_and, and_true, false_and, and_false, List.length_cons, List.length_nil, List.take_succ_cons, List.take_zero, List.drop_succ_cons, List.drop_zero, List.reverse_cons, List.reverse_nil, List.nil_append, List.cons_append, List.append_nil, List.getElem?_cons_zero, List.getElem?_cons_succ, List.map_cons, List.map_nil, List.sum_cons, List.sum_nil, kx_cat_i, kx_cat_r, kx_cat_n, kx_cat_l, kx_cat_v, Nat.reduceAdd, Nat.reduceSub, Nat.reduceEqDiff, Nat.reduceLeDiff, Nat.reduceMul, Nat.reduceLT, Nat.add_zero, Nat.zero_add, Nat.sub_zero, Nat.sub_self, Nat.le_refl, Nat.zero_le, ↓reduceIte, not_true_eq_false, not_false_eq_true, or_true, true_or, or_false, false_or, Option.some.injEq, ne_eq, implies_true, forall_const, forall_eq', forall_eq, and_self, or_self, Bool.or_true, Bool.or_false, Bool.true_or, Bool.false_or, Bool.and_true, Bool.and_false, Bool.true_and, Bool.false_and, Option.toList_some, Option.toList_none, Nat.succ_ne_zero, false_implies, true_implies, kx_l0, kd_sI, kd_sR, kd_sA, kd_sL, fI_sI_eq, fI_sI_ne, fR_sI, aI_sI, mL_sI, ln_sI, fR_sR_eq, fR_sR_ne, fI_sR, aI_sR, mL_sR, ln_sR, fI_sA, fR_sA, mL_sA, ln_sA, fI_sL, fR_sL, aI_sL, ln_sL, lo_X9_pass_0, lo_X9_pass_1, lo_X9_pass_2, lo_X9_pass_4, lo_X9_pass_7, lo_X9_pass_10, lo_X9_pass_11, lo_X9_pass_12, lo_X9_pass_14, lo_X9_pass_17, lo_X9_pass_20, lo_X9_pass_30, lo_X9_pass_31, lo_X9_pass_32, lo_X9_pass_35, lo_X9_pass_36, lo_X9_pass_37, lo_X9_pass_38, lo_X9_pass_40, lo_X9_pass_42, lo_X9_pass_43, lo_X9_pass_46, lo_X9_pass_47, lo_X9_pass_48, lo_X9_pass_51, lo_X9_pass_52, lo_X9_pass_53, lo_X9_pass_56, lo_X9_pass_59, lo_X9_pass_60, f2_X9_isWithin, f2_X9_passOneHour, k1, vIn, kx_10, e8, e9, e10, e11]
    have hle : ∀ k : Nat, k < 1000 → (x ≤ nI k) = (x.toNatClampNeg ≤ k) := fun k hk => by
      conv => lhs; rw [hxn]
      exact i32_le (by omega) (by omega)
    generalize hn : x.toNatClampNeg = n at *
    have hP0 : pHour (sI M 211 m lt) m := pHour_sub ⟨kd_sI _ _ _ _, fR_sI _ _ _ _, fun x => by rw [mL_sI]; exact ⟨fun _ h => h, Nat.le_refl _⟩⟩ (fI_sI_ne _ _ _ _ _ _ (by decide)) h1
    have loop : ∀ (k j : Nat) (b : Int32) (N : kx_M), j + k = n → pHour N m → eHours m k (N, b) = eHours m n (sI M 211 m lt, 0) → G 0 0 40 [(0, .ref m), (1, .int x), (2, .int lt), (3, .int b), (4, .int (nI j))] [] N := by
      intro k
      induction k with
      | zero =>
        intro j b N hj hN hE
        have e1 : (x ≤ nI j) = True := by rw [hle j (by omega)]; exact eq_true (by omega)
        have hE' : eHours m n (sI M 211 m lt, 0) = (N, b) := hE.symm
        refine kx_run_ok hG (kx_in [40]) 60 _ _ _ _ _ _ ?_
        simp only [kx_run_s, kx_run_z, kx_in, kx_beq, decide_true, decide_false, cond_true, cond_false, t_push, t_il, t_ll, t_al, t_is, t_ls, t_as, t_inc, t_bin, t_dv, t_lbin, t_lcmp, t_itl, t_dup, t_pop, t_dupx, t_go, t_gk, cutL, t_if, t_ic, t_nul, t_acmp, t_gI, t_gR, t_pI, t_pZ, t_pR, t_new, t_nwa, t_ial, t_ias, t_aln, t_cst, t_sln, t_sld, t_iret, t_zret, t_lret, t_aret, t_vret, t_no, t_call, t_fun, t_sw, sw_to0, t_oin, t_mm, t_qal, t_qas, t_qln, t_nwq, t_gcl, t_acp, lk, up1, cl1, up2, cl2, kx_c2, lv_args, kx_sum, kx_isr_r, kx_isr_n, kx_isr_v, kx_ex_r, kx_ex_n, kx_ex_v, kx_ex2_r, kx_ex2_n, kx_ex2_v, va_rf_s, va_rf_n, Value.ref.injEq, reduceCtorEq, exists_eq_left', exists_eq_left, exists_eq', exists_eq, true_and, and_true, false_and, and_false, List.length_cons, List.length_nil, List.take_succ_cons, List.take_zero, List.drop_succ_cons, List.drop_zero, List.reverse_cons, List.reverse_nil, List.nil_append, List.cons_append, List.append_nil, List.getElem?_cons_zero, List.getElem?_cons_succ, List.map_cons, List.map_nil, List.sum_cons, List.sum_nil, kx_cat_i, kx_cat_r, kx_cat_n, kx_cat_l, kx_cat_v, Nat.reduceAdd, Nat.reduceSub, Nat.reduceEqDiff, Nat.reduceLeDiff, Nat.reduceMul, Nat.reduceLT, Nat.add_zero, Nat.zero_add, Nat.sub_zero, Nat.sub_self, Nat.le_refl, Nat.zero_le, ↓reduceIte, not_true_eq_false, not_false_eq_true, or_true, true_or, or_false, false_or, Option.some.injEq, ne_eq, implies_true, forall_const, forall_eq', forall_eq, and_self, or_self, Bool.or_true, Bool.or_false, Bool.true_or, Bool.false_or, Bool.and_true, Bool.and_false, Bool.true_and, Bool.false_and, Option.toList_some, Option.toList_none, Nat.succ_ne_zero, false_implies, true_implies, kx_l0, kd_sI, kd_sR, kd_sA, kd_sL, fI_sI_eq, fI_sI_ne, fR_sI, aI_sI, mL_sI, ln_sI, fR_sR_eq, fR_sR_ne, fI_sR, aI_sR, mL_sR, ln_sR, fI_sA, fR_sA, mL_sA, ln_sA, fI_sL, fR_sL, aI_sL, ln_sL, lo_X9_pass_0, lo_X9_pass_1, lo_X9_pass_2, lo_X9_pass_4, lo_X9_pass_7, lo_X9_pass_10, lo_X9_pass_11, lo_X9_pass_12, lo_X9_pass_14, lo_X9_pass_17, lo_X9_pass_20, lo_X9_pass_30, lo_X9_pass_31, lo_X9_pass_32, lo_X9_pass_35, lo_X9_pass_36, lo_X9_pass_37, lo_X9_pass_38, lo_X9_pass_40, lo_X9_pass_42, lo_X9_pass_43, lo_X9_pass_46, lo_X9_pass_47, lo_X9_pass_48, lo_X9_pass_51, lo_X9_pass_52, lo_X9_pass_53, lo_X9_pass_56, lo_X9_pass_59, lo_X9_pass_60, f2_X9_isWithin, f2_X9_passOneHour, e1]
        rw [hE']
        exact ⟨rfl, rfl⟩
      | succ k ih =>
        intro j b N hj hN hE
        have e1 : (x ≤ nI j) = False := by rw [hle j (by omega)]; exact eq_false (by omega)
        have hm := hN.1.1
        have hNt := eq_true hN
        have hn' := ih (j + 1) (b + (eRailN m 2 (eHour m N) (eHour m N, 0)).2) (eRailN m 2 (eHour m N) (eHour m N, 0)).1 (by omega) (pHour_one hN) (by rw [← hE]; exact (Eq.refl _))
        rw [← nI_1] at hn'
        refine kx_run_ok hG (kx_in [40]) 60 _ _ _ _ _ _ ?_
        simp only [kx_run_s, kx_run_z, kx_in, kx_beq, decide_true, decide_false, cond_true, cond_false, t_push, t_il, t_ll, t_al, t_is, t_ls, t_as, t_inc, t_bin, t_dv, t_lbin, t_lcmp, t_itl, t_dup, t_pop, t_dupx, t_go, t_gk, cutL, t_if, t_ic, t_nul, t_acmp, t_gI, t_gR, t_pI, t_pZ, t_pR, t_new, t_nwa, t_ial, t_ias, t_aln, t_cst, t_sln, t_sld, t_iret, t_zret, t_lret, t_aret, t_vret, t_no, t_call, t_fun, t_sw, sw_to0, t_oin, t_mm, t_qal, t_qas, t_qln, t_nwq, t_gcl, t_acp, lk, up1, cl1, up2, cl2, kx_c2, lv_args, kx_sum, kx_isr_r, kx_isr_n, kx_isr_v, kx_ex_r, kx_ex_n, kx_ex_v, kx_ex2_r, kx_ex2_n, kx_ex2_v, va_rf_s, va_rf_n, Value.ref.injEq, reduceCtorEq, exists_eq_left', exists_eq_left, exists_eq', exists_eq, true_and, and_true, false_and, and_false, List.length_cons, List.length_nil, List.take_succ_cons, List.take_zero, List.drop_succ_cons, List.drop_zero, List.reverse_cons, List.reverse_nil, List.nil_append, List.cons_append, List.append_nil, List.getElem?_cons_zero, List.getElem?_cons_succ, List.map_cons, List.map_nil, List.sum_cons, List.sum_nil, kx_cat_i, kx_cat_r, kx_cat_n, kx_cat_l, kx_cat_v, Nat.reduceAdd, Nat.reduceSub, Nat.reduceEqDiff, Nat.reduceLeDiff, Nat.reduceMul, Nat.reduceLT, Nat.add_zero, Nat.zero_add, Nat.sub_zero, Nat.sub_self, Nat.le_refl, Nat.zero_le, ↓reduceIte, not_true_eq_false, not_false_eq_true, or_true, true_or, or_false, false_or, Option.some.injEq, ne_eq, implies_true, forall_const, forall_eq', forall_eq, and_self, or_self, Bool.or_true, Bool.or_false, Bool.true_or, Bool.false_or, Bool.and_true, Bool.and_false, Bool.true_and, Bool.false_and, Option.toList_some, Option.toList_none, Nat.succ_ne_zero, false_implies, true_implies, kx_l0, kd_sI, kd_sR, kd_sA, kd_sL, fI_sI_eq, fI_sI_ne, fR_sI, aI_sI, mL_sI, ln_sI, fR_sR_eq, fR_sR_ne, fI_sR, aI_sR, mL_sR, ln_sR, fI_sA, fR_sA, mL_sA, ln_sA, fI_sL, fR_sL, aI_sL, ln_sL, lo_X9_pass_0, lo_X9_pass_1, lo_X9_pass_2, lo_X9_pass_4, lo_X9_pass_7, lo_X9_pass_10, lo_X9_pass_11, lo_X9_pass_12, lo_X9_pass_14, lo_X9_pass_17, lo_X9_pass_20, lo_X9_pass_30, lo_X9_pass_31, lo_X9_pass_32, lo_X9_pass_35, lo_X9_pass_36, lo_X9_pass_37, lo_X9_pass_38, lo_X9_pass_40, lo_X9_pass_42, lo_X9_pass_43, lo_X9_pass_46, lo_X9_pass_47, lo_X9_pass_48, lo_X9_pass_51, lo_X9_pass_52, lo_X9_pass_53, lo_X9_pass_56, lo_X9_pass_59, lo_X9_pass_60, f2_X9_isWithin, f2_X9_passOneHour, e1, hm, hNt]
        exact hn'
    exact loop n 0 0 (sI M 211 m lt) (by omega) hP0 rfl
  · intro h; exact h.elim
theorem f2_X9_pass_rc (E : kx_E) {av : List Value} {M : kx_M} (h : (f2_X9_pass E av M).1) : ∃ (a : Nat) (as : List Value), av = .ref a :: as ∧ kd M a = 11 := by
  unfold f2_X9_pass at h
  split at h
  · exact ⟨_, _, rfl, h.1.1.1⟩
  · exact h.elim
