set_option maxRecDepth 8000 in
theorem f2_X9_growerAt_ok (E : kx_E) {av : List Value} {M : kx_M} (h : (f2_X9_growerAt E av M).1) : c2t_X9_growerAt E av M 0 0 (fun v M1 => v.toList = (f2_X9_growerAt E av M).2.1 ∧ M1 = (f2_X9_growerAt E av M).2.2) := by
  revert h
  unfold f2_X9_growerAt
  split
  · rename_i m i
    intro h
    obtain ⟨h1, ⟨t, h2, h3⟩, h4, h5, h6⟩ := h
    have hr : rf M 200 m = t := by unfold rf; rw [h2]; rfl
    rw [hr] at h5 h6 ⊢
    have e4 : (i < 0) = False := eq_false (Int32.not_lt.mpr h4)
    have e5 : (Int32.ofNat (mL M t).length ≤ i) = False := eq_false (Int32.not_le.mpr h5)
    have e6 := eq_true h6
    refine en_X9_growerAt E (Nat.le_of_ble_eq_true rfl) (fun G hG => kx_run_ok hG (kx_in []) 40 _ _ _ _ _ _ ?_)
    simp only [kx_run_s, kx_run_z, kx_in, kx_beq, decide_true, decide_false, cond_true, cond_false, t_push, t_il, t_ll, t_al, t_is, t_ls, t_as, t_inc, t_bin, t_dv, t_lbin, t_lcmp, t_itl, t_dup, t_pop, t_dupx, t_go, t_gk, cutL, t_if, t_ic, t_nul, t_acmp, t_gI, t_gR, t_pI, t_pZ, t_pR, t_new, t_nwa, t_ial, t_ias, t_aln, t_cst, t_sln, t_sld, t_iret, t_zret, t_lret, t_aret, t_vret, t_no, t_call, t_fun, t_sw, sw_to0, t_oin, t_mm, t_qal, t_qas, t_qln, t_nwq, t_gcl, t_acp, lk, up1, cl1, up2, cl2, kx_c2, lv_args, kx_sum, kx_isr_r, kx_isr_n, kx_isr_v, kx_ex_r, kx_ex_n, kx_ex_v, kx_ex2_r, kx_ex2_n, kx_ex2_v, va_rf_s, va_rf_n, Value.ref.injEq, reduceCtorEq, exists_eq_left', exists_eq_left, exists_eq', exists_eq, true_and, and_true, false_and, and_false, List.length_cons, List.length_nil, List.take_succ_cons, List.take_zero, List.drop_succ_cons, List.drop_zero, List.reverse_cons, List.reverse_nil, List.nil_append, List.cons_append, List.append_nil, List.getElem?_cons_zero, List.getElem?_cons_succ, List.map_cons, List.map_nil, List.sum_cons, List.sum_nil, kx_cat_i, kx_cat_r, kx_cat_n, kx_cat_l, kx_cat_v, Nat.reduceAdd, Nat.reduceSub, Nat.reduceEqDiff, Nat.reduceLeDiff, Nat.reduceMul, Nat.reduceLT, Nat.add_zero, Nat.zero_add, Nat.sub_zero, Nat.sub_self, Nat.le_refl, Nat.zero_le, ↓reduceIte, not_true_eq_false, not_false_eq_true, or_true, true_or, or_false, false_or, Option.some.injEq, ne_eq, implies_true, forall_const, forall_eq', forall_eq, and_self, or_self, Bool.or_true, Bool.or_false, Bool.true_or, Bool.false_or, Bool.and_true, Bool.and_false, Bool.true_and, Bool.false_and, Option.toList_some, Option.toList_none, Nat.succ_ne_zero, false_implies, true_implies, kx_l0, kd_sI, kd_sR, kd_sA, kd_sL, fI_sI_eq, fI_sI_ne, fR_sI, aI_sI, mL_sI, ln_sI, fR_sR_eq, fR_sR_ne, fI_sR, aI_sR, mL_sR, ln_sR, fI_sA, fR_sA, mL_sA, ln_sA, fI_sL, fR_sL, aI_sL, ln_sL, lo_X9_growerAt_0, lo_X9_growerAt_1, lo_X9_growerAt_4, lo_X9_growerAt_5, lo_X9_growerAt_6, lo_X9_growerAt_9, lo_X9_growerAt_12, lo_X9_growerAt_15, lo_X9_growerAt_26, lo_X9_growerAt_27, lo_X9_growerAt_30, lo_X9_growerAt_31, lo_X9_growerAt_34, lo_X9_growerAt_37, f2_Jx4a65c_size_8abf5, f2_Jx4a65c_get_915e3, h1, h2, h3, e4, e5, h4, h5, e6]
  · intro h; exact h.elim
theorem f2_X9_growerAt_rc (E : kx_E) {av : List Value} {M : kx_M} (h : (f2_X9_growerAt E av M).1) : ∃ (a : Nat) (as : List Value), av = .ref a :: as ∧ kd M a = 11 := by
  unfold f2_X9_growerAt at h
  split at h
  · exact ⟨_, _, rfl, h.1⟩
  · exact h.elim
set_option maxRecDepth 8000 in
theorem f2_X9_cropAt_ok (E : kx_E) {av : List Value} {M : kx_M} (h : (f2_X9_cropAt E av M).1) : c2t_X9_cropAt E av M 0 0 (fun v M1 => v.toList = (f2_X9_cropAt E av M).2.1 ∧ M1 = (f2_X9_cropAt E av M).2.2) := by
  revert h
  unfold f2_X9_cropAt
  split
  · rename_i m i
    intro h
    obtain ⟨h1, ⟨t, h2, h3⟩, h4, h5, h6⟩ := h
    have hr : rf M 201 m = t := by unfold rf; rw [h2]; rfl
    rw [hr] at h5 h6 ⊢
    have e4 : (i < 0) = False := eq_false (Int32.not_lt.mpr h4)
    have e5 : (Int32.ofNat (mL M t).length ≤ i) = False := eq_false (Int32.not_le.mpr h5)
    have e6 := eq_true h6
    refine en_X9_cropAt E (Nat.le_of_ble_eq_true rfl) (fun G hG => kx_run_ok hG (kx_in []) 40 _ _ _ _ _ _ ?_)
    simp only [kx_run_s, kx_run_z, kx_in, kx_beq, decide_true, decide_false, cond_true, cond_false, t_push, t_il, t_ll, t_al, t_is, t_ls, t_as, t_inc, t_bin, t_dv, t_lbin, t_lcmp, t_itl, t_dup, t_pop, t_dupx, t_go, t_gk, cutL, t_if, t_ic, t_nul, t_acmp, t_gI, t_gR, t_pI, t_pZ, t_pR, t_new, t_nwa, t_ial, t_ias, t_aln, t_cst, t_sln, t_sld, t_iret, t_zret, t_lret, t_aret, t_vret, t_no, t_call, t_fun, t_sw, sw_to0, t_oin, t_mm, t_qal, t_qas, t_qln, t_nwq, t_gcl, t_acp, lk, up1, cl1, up2, cl2, kx_c2, lv_args, kx_sum, kx_isr_r, kx_isr_n, kx_isr_v, kx_ex_r, kx_ex_n, kx_ex_v, kx_ex2_r, kx_ex2_n, kx_ex2_v, va_rf_s, va_rf_n, Value.ref.injEq, reduceCtorEq, exists_eq_left', exists_eq_left, exists_eq', exists_eq, true_and, and_true, false_and, and_false, List.length_cons, List.length_nil, List.take_succ_cons, List.take_zero, List.drop_succ_cons, List.drop_zero, List.reverse_cons, List.reverse_nil, List.nil_append, List.cons_append, List.append_nil, List.getElem?_cons_zero, List.getElem?_cons_succ, List.map_cons, List.map_nil, List.sum_cons, List.sum_nil, kx_cat_i, kx_cat_r, kx_cat_n, kx_cat_l, kx_cat_v, Nat.reduceAdd, Nat.reduceSub, Nat.reduceEqDiff, Nat.reduceLeDiff, Nat.reduceMul, Nat.reduceLT, Nat.add_zero, Nat.zero_add, Nat.sub_zero, Nat.sub_self, Nat.le_refl, Nat.zero_le, ↓reduceIte, not_true_eq_false, not_false_eq_true, or_true, true_or, or_false, false_or, Option.some.injEq, ne_eq, implies_true, forall_const, forall_eq', forall_eq, and_self, or_self, Bool.or_true, Bool.or_false, Bool.true_or, Bool.false_or, Bool.and_true, Bool.and_false, Bool.true_and, Bool.false_and, Option.toList_some, Option.toList_none, Nat.succ_ne_zero, false_implies, true_implies, kx_l0, kd_sI, kd_sR, kd_sA, kd_sL, fI_sI_eq, fI_sI_ne, fR_sI, aI_sI, mL_sI, ln_sI, fR_sR_eq, fR_sR_ne, fI_sR, aI_sR, mL_sR, ln_sR, fI_sA, fR_sA, mL_sA, ln_sA, fI_sL, fR_sL, aI_sL, ln_sL, lo_X9_cropAt_0, lo_X9_cropAt_1, lo_X9_cropAt_4, lo_X9_cropAt_5, lo_X9_cropAt_6, lo_X9_cropAt_9, lo_X9_cropAt_12, lo_X9_cropAt_15, lo_X9_cropAt_26, lo_X9_cropAt_27, lo_X9_cropAt_30, lo_X9_cropAt_31, lo_X9_cropAt_34, lo_X9_cropAt_37, f2_Jx4a65c_size_8abf5, f2_Jx4a65c_get_915e3, h1, h2, h3, e4, e5, h4, h5, e6]
  · intro h; exact h.elim
theorem f2_X9_cropAt_rc (E : kx_E) {av : List Value} {M : kx_M} (h : (f2_X9_cropAt E av M).1) : ∃ (a : Nat) (as : List Value), av = .ref a :: as ∧ kd M a = 11 := by
  unfold f2_X9_cropAt at h
  split at h
  · exact ⟨_, _, rfl, h.1⟩
  · exact h.elim
set_option maxRecDepth 8000 in
theorem f2_X9_lotAt_ok (E : kx_E) {av : List Value} {M : kx_M} (h : (f2_X9_lotAt E av M).1) : c2t_X9_lotAt E av M 0 0 (fun v M1 => v.toList = (f2_X9_lotAt E av M).2.1 ∧ M1 = (f2_X9_lotAt E av M).2.2) := by
  revert h
  unfold f2_X9_lotAt
  split
  · rename_i m i
    intro h
    obtain ⟨h1, ⟨t, h2, h3⟩, h4, h5, h6⟩ := h
    have hr : rf M 202 m = t := by unfold rf; rw [h2]; rfl
    rw [hr] at h5 h6 ⊢
    have e4 : (i < 0) = False := eq_false (Int32.not_lt.mpr h4)
    have e5 : (Int32.ofNat (mL M t).length ≤ i) = False := eq_false (Int32.not_le.mpr h5)
    have e6 := eq_true h6
    refine en_X9_lotAt E (Nat.le_of_ble_eq_true rfl) (fun G hG => kx_run_ok hG (kx_in []) 40 _ _ _ _ _ _ ?_)
    simp only [kx_run_s, kx_run_z, kx_in, kx_beq, decide_true, decide_false, cond_true, cond_false, t_push, t_il, t_ll, t_al, t_is, t_ls, t_as, t_inc, t_bin, t_dv, t_lbin, t_lcmp, t_itl, t_dup, t_pop, t_dupx, t_go, t_gk, cutL, t_if, t_ic, t_nul, t_acmp, t_gI, t_gR, t_pI, t_pZ, t_pR, t_new, t_nwa, t_ial, t_ias, t_aln, t_cst, t_sln, t_sld, t_iret, t_zret, t_lret, t_aret, t_vret, t_no, t_call, t_fun, t_sw, sw_to0, t_oin, t_mm, t_qal, t_qas, t_qln, t_nwq, t_gcl, t_acp, lk, up1, cl1, up2, cl2, kx_c2, lv_args, kx_sum, kx_isr_r, kx_isr_n, kx_isr_v, kx_ex_r, kx_ex_n, kx_ex_v, kx_ex2_r, kx_ex2_n, kx_ex2_v, va_rf_s, va_rf_n, Value.ref.injEq, reduceCtorEq, exists_eq_left', exists_eq_left, exists_eq', exists_eq, true_and, and_true, false_and, and_false, List.length_cons, List.length_nil, List.take_succ_cons, List.take_zero, List.drop_succ_cons, List.drop_zero, List.reverse_cons, List.reverse_nil, List.nil_append, List.cons_append, List.append_nil, List.getElem?_cons_zero, List.getElem?_cons_succ, List.map_cons, List.map_nil, List.sum_cons, List.sum_nil, kx_cat_i, kx_cat_r, kx_cat_n, kx_cat_l, kx_cat_v, Nat.reduceAdd, Nat.reduceSub, Nat.reduceEqDiff, Nat.reduceLeDiff, Nat.reduceMul, Nat.reduceLT, Nat.add_zero, Nat.zero_add, Nat.sub_zero, Nat.sub_self, Nat.le_refl, Nat.zero_le, ↓reduceIte, not_true_eq_false, not_false_eq_true, or_true, true_or, or_false, false_or, Option.some.injEq, ne_eq, implies_true, forall_const, forall_eq', forall_eq, and_self, or_self, Bool.or_true, Bool.or_false, Bool.true_or, Bool.false_or, Bool.and_true, Bool.and_false, Bool.true_and, Bool.false_and, Option.toList_some, Option.toList_none, Nat.succ_ne_zero, false_implies, true_implies, kx_l0, kd_sI, kd_sR, kd_sA, kd_sL, fI_sI_eq, fI_sI_ne, fR_sI, aI_sI, mL_sI, ln_sI, fR_sR_eq, fR_sR_ne, fI_sR, aI_sR, mL_sR, ln_sR, fI_sA, fR_sA, mL_sA, ln_sA, fI_sL, fR_sL, aI_sL, ln_sL, lo_X9_lotAt_0, lo_X9_lotAt_1, lo_X9_lotAt_4, lo_X9_lotAt_5, lo_X9_lotAt_6, lo_X9_lotAt_9, lo_X9_lotAt_12, lo_X9_lotAt_15, lo_X9_lotAt_26, lo_X9_lotAt_27, lo_X9_lotAt_30, lo_X9_lotAt_31, lo_X9_lotAt_34, lo_X9_lotAt_37, f2_Jx4a65c_size_8abf5, f2_Jx4a65c_get_915e3, h1, h2, h3, e4, e5, h4, h5, e6]
  · intro h; exact h.elim
theorem f2_X9_lotAt_rc (E : kx_E) {av : List Value} {M : kx_M} (h : (f2_X9_lotAt E av M).1) : ∃ (a : Nat) (as : List Value), av = .ref a :: as ∧ kd M a = 11 := by
  unfold f2_X9_lotAt at h
  split at h
  · exact ⟨_, _, rfl, h.1⟩
  · exact h.elim
set_option maxRecDepth 8000 in
theorem f2_X9_buyerAt_ok (E : kx_E) {av : List Value} {M : kx_M} (h : (f2_X9_buyerAt E av M).1) : c2t_X9_buyerAt E av M 0 0 (fun v M1 => v.toList = (f2_X9_buyerAt E av M).2.1 ∧ M1 = (f2_X9_buyerAt E av M).2.2) := by
  revert h
  unfold f2_X9_buyerAt
  split
  · rename_i m i
    intro h
    obtain ⟨h1, ⟨t, h2, h3⟩, h4, h5, h6⟩ := h
    have hr : rf M 204 m = t := by unfold rf; rw [h2]; rfl
    rw [hr] at h5 h6 ⊢
    have e4 : (i < 0) = False := eq_false (Int32.not_lt.mpr h4)
    have e5 : (Int32.ofNat (mL M t).length ≤ i) = False := eq_false (Int32.not_le.mpr h5)
    have e6 := eq_true h6
    refine en_X9_buyerAt E (Nat.le_of_ble_eq_true rfl) (fun G hG => kx_run_ok hG (kx_in []) 40 _ _ _ _ _ _ ?_)
    simp only [kx_run_s, kx_run_z, kx_in, kx_beq, decide_true, decide_false, cond_true, cond_false, t_push, t_il, t_ll, t_al, t_is, t_ls, t_as, t_inc, t_bin, t_dv, t_lbin, t_lcmp, t_itl, t_dup, t_pop, t_dupx, t_go, t_gk, cutL, t_if, t_ic, t_nul, t_acmp, t_gI, t_gR, t_pI, t_pZ, t_pR, t_new, t_nwa, t_ial, t_ias, t_aln, t_cst, t_sln, t_sld, t_iret, t_zret, t_lret, t_aret, t_vret, t_no, t_call, t_fun, t_sw, sw_to0, t_oin, t_mm, t_qal, t_qas, t_qln, t_nwq, t_gcl, t_acp, lk, up1, cl1, up2, cl2, kx_c2, lv_args, kx_sum, kx_isr_r, kx_isr_n, kx_isr_v, kx_ex_r, kx_ex_n, kx_ex_v, kx_ex2_r, kx_ex2_n, kx_ex2_v, va_rf_s, va_rf_n, Value.ref.injEq, reduceCtorEq, exists_eq_left', exists_eq_left, exists_eq', exists_eq, true_and, and_true, false_and, and_false, List.length_cons, List.length_nil, List.take_succ_cons, List.take_zero, List.drop_succ_cons, List.drop_zero, List.reverse_cons, List.reverse_nil, List.nil_append, List.cons_append, List.append_nil, List.getElem?_cons_zero, List.getElem?_cons_succ, List.map_cons, List.map_nil, List.sum_cons, List.sum_nil, kx_cat_i, kx_cat_r, kx_cat_n, kx_cat_l, kx_cat_v, Nat.reduceAdd, Nat.reduceSub, Nat.reduceEqDiff, Nat.reduceLeDiff, Nat.reduceMul, Nat.reduceLT, Nat.add_zero, Nat.zero_add, Nat.sub_zero, Nat.sub_self, Nat.le_refl, Nat.zero_le, ↓reduceIte, not_true_eq_false, not_false_eq_true, or_true, true_or, or_false, false_or, Option.some.injEq, ne_eq, implies_true, forall_const, forall_eq', forall_eq, and_self, or_self, Bool.or_true, Bool.or_false, Bool.true_or, Bool.false_or, Bool.and_true, Bool.and_false, Bool.true_and, Bool.false_and, Option.toList_some, Option.toList_none, Nat.succ_ne_zero, false_implies, true_implies, kx_l0, kd_sI, kd_sR, kd_sA, kd_sL, fI_sI_eq, fI_sI_ne, fR_sI, aI_sI, mL_sI, ln_sI, fR_sR_eq, fR_sR_ne, fI_sR, aI_sR, mL_sR, ln_sR, fI_sA, fR_sA, mL_sA, ln_sA, fI_sL, fR_sL, aI_sL, ln_sL, lo_X9_buyerAt_0, lo_X9_buyerAt_1, lo_X9_buyerAt_4, lo_X9_buyerAt_5, lo_X9_buyerAt_6, lo_X9_buyerAt_9, lo_X9_buyerAt_12, lo_X9_buyerAt_15, lo_X9_buyerAt_26, lo_X9_buyerAt_27, lo_X9_buyerAt_30, lo_X9_buyerAt_31, lo_X9_buyerAt_34, lo_X9_buyerAt_37, f2_Jx4a65c_size_8abf5, f2_Jx4a65c_get_915e3, h1, h2, h3, e4, e5, h4, h5, e6]
  · intro h; exact h.elim
theorem f2_X9_buyerAt_rc (E : kx_E) {av : List Value} {M : kx_M} (h : (f2_X9_buyerAt E av M).1) : ∃ (a : Nat) (as : List Value), av = .ref a :: as ∧ kd M a = 11 := by
  unfold f2_X9_buyerAt at h
  split at h
  · exact ⟨_, _, rfl, h.1⟩
  · exact h.elim
set_option maxRecDepth 8000 in
theorem f2_X9_lotInRow_ok (E : kx_E) {av : List Value} {M : kx_M} (h : (f2_X9_lotInRow E av M).1) : c2t_X9_lotInRow E av M 0 0 (fun v M1 => v.toList = (f2_X9_lotInRow E av M).2.1 ∧ M1 = (f2_X9_lotInRow E av M).2.2) := by
  revert h
  unfold f2_X9_lotInRow
  split
  · rename_i m i
    intro h
    obtain ⟨h1, t, h2, h3, h4, h5⟩ := h
    have hr : rf M 203 m = t := by unfold rf; rw [h2]; rfl
    unfold vRow
    rw [hr]
    by_cases z : i < 0
    · have e4 : (i < 0) = True := eq_true z
      refine en_X9_lotInRow E (Nat.le_of_ble_eq_true rfl) (fun G hG => kx_run_ok hG (kx_in []) 40 _ _ _ _ _ _ ?_)
      simp only [kx_run_s, kx_run_z, kx_in, kx_beq, decide_true, decide_false, cond_true, cond_false, t_push, t_il, t_ll, t_al, t_is, t_ls, t_as, t_inc, t_bin, t_dv, t_lbin, t_lcmp, t_itl, t_dup, t_pop, t_dupx, t_go, t_gk, cutL, t_if, t_ic, t_nul, t_acmp, t_gI, t_gR, t_pI, t_pZ, t_pR, t_new, t_nwa, t_ial, t_ias, t_aln, t_cst, t_sln, t_sld, t_iret, t_zret, t_lret, t_aret, t_vret, t_no, t_call, t_fun, t_sw, sw_to0, t_oin, t_mm, t_qal, t_qas, t_qln, t_nwq, t_gcl, t_acp, lk, up1, cl1, up2, cl2, kx_c2, lv_args, kx_sum, kx_isr_r, kx_isr_n, kx_isr_v, kx_ex_r, kx_ex_n, kx_ex_v, kx_ex2_r, kx_ex2_n, kx_ex2_v, va_rf_s, va_rf_n, Value.ref.injEq, reduceCtorEq, exists_eq_left', exists_eq_left, exists_eq', exists_eq, true_and, and_true, false_and, and_false, List.length_cons, List.length_nil, List.take_succ_cons, List.take_zero, List.drop_succ_cons, List.drop_zero, List.reverse_cons, List.reverse_nil, List.nil_append, List.cons_append, List.append_nil, List.getElem?_cons_zero, List.getElem?_cons_succ, List.map_cons, List.map_nil, List.sum_cons, List.sum_nil, kx_cat_i, kx_cat_r, kx_cat_n, kx_cat_l, kx_cat_v, Nat.reduceAdd, Nat.reduceSub, Nat.reduceEqDiff, Nat.reduceLeDiff, Nat.reduceMul, Nat.reduceLT, Nat.add_zero, Nat.zero_add, Nat.sub_zero, Nat.sub_self, Nat.le_refl, Nat.zero_le, ↓reduceIte, not_true_eq_false, not_false_eq_true, or_true, true_or, or_false, false_or, Option.some.injEq, ne_eq, implies_true, forall_const, forall_eq', forall_eq, and_self, or_self, Bool.or_true, Bool.or_false, Bool.true_or, Bool.false_or, Bool.and_true, Bool.and_false, Bool.true_and, Bool.false_and, Option.toList_some, Option.toList_none, Nat.succ_ne_zero, false_implies, true_implies, kx_l0, kd_sI, kd_sR, kd_sA, kd_sL, fI_sI_eq, fI_sI_ne, fR_sI, aI_sI, mL_sI, ln_sI, fR_sR_eq, fR_sR_ne, fI_sR, aI_sR, mL_sR, ln_sR, fI_sA, fR_sA, mL_sA, ln_sA, fI_sL, fR_sL, aI_sL, ln_sL, lo_X9_lotInRow_0, lo_X9_lotInRow_1, lo_X9_lotInRow_4, lo_X9_lotInRow_5, lo_X9_lotInRow_6, lo_X9_lotInRow_9, lo_X9_lotInRow_12, lo_X9_lotInRow_15, lo_X9_lotInRow_16, lo_X9_lotInRow_17, lo_X9_lotInRow_18, lo_X9_lotInRow_21, lo_X9_lotInRow_22, lo_X9_lotInRow_25, lo_X9_lotInRow_28, lo_X9_lotInRow_31, f2_Jx4a65c_size_8abf5, f2_Jx4a65c_get_915e3, e4]
    · have e4 : (i < 0) = False := eq_false z
      by_cases y : Int32.ofNat (mL M t).length ≤ i
      · have e5 : (Int32.ofNat (mL M t).length ≤ i) = True := eq_true y
        refine en_X9_lotInRow E (Nat.le_of_ble_eq_true rfl) (fun G hG => kx_run_ok hG (kx_in []) 40 _ _ _ _ _ _ ?_)
        simp only [kx_run_s, kx_run_z, kx_in, kx_beq, decide_true, decide_false, cond_true, cond_false, t_push, t_il, t_ll, t_al, t_is, t_ls, t_as, t_inc, t_bin, t_dv, t_lbin, t_lcmp, t_itl, t_dup, t_pop, t_dupx, t_go, t_gk, cutL, t_if, t_ic, t_nul, t_acmp, t_gI, t_gR, t_pI, t_pZ, t_pR, t_new, t_nwa, t_ial, t_ias, t_aln, t_cst, t_sln, t_sld, t_iret, t_zret, t_lret, t_aret, t_vret, t_no, t_call, t_fun, t_sw, sw_to0, t_oin, t_mm, t_qal, t_qas, t_qln, t_nwq, t_gcl, t_acp, lk, up1, cl1, up2, cl2, kx_c2, lv_args, kx_sum, kx_isr_r, kx_isr_n, kx_isr_v, kx_ex_r, kx_ex_n, kx_ex_v, kx_ex2_r, kx_ex2_n, kx_ex2_v, va_rf_s, va_rf_n, Value.ref.injEq, reduceCtorEq, exists_eq_left', exists_eq_left, exists_eq', exists_eq, true_and, and_true, false_and, and_false, List.length_cons, List.length_nil, List.take_succ_cons, List.take_zero, List.drop_succ_cons, List.drop_zero, List.reverse_cons, List.reverse_nil, List.nil_append, List.cons_append, List.append_nil, List.getElem?_cons_zero, List.getElem?_cons_succ, List.map_cons, List.map_nil, List.sum_cons, List.sum_nil, kx_cat_i, kx_cat_r, kx_cat_n, kx_cat_l, kx_cat_v, Nat.reduceAdd, Nat.reduceSub, Nat.reduceEqDiff, Nat.reduceLeDiff, Nat.reduceMul, Nat.reduceLT, Nat.add_zero, Nat.zero_add, Nat.sub_zero, Nat.sub_self, Nat.le_refl, Nat.zero_le, ↓reduceIte, not_true_eq_false, not_false_eq_true, or_true, true_or, or_false, false_or, Option.some.injEq, ne_eq, implies_true, forall_const, forall_eq', forall_eq, and_self, or_self, Bool.or_true, Bool.or_false, Bool.true_or, Bool.false_or, Bool.and_true, Bool.and_false, Bool.true_and, Bool.false_and, Option.toList_some, Option.toList_none, Nat.succ_ne_zero, false_implies, true_implies, kx_l0, kd_sI, kd_sR, kd_sA, kd_sL, fI_sI_eq, fI_sI_ne, fR_sI, aI_sI, mL_sI, ln_sI, fR_sR_eq, fR_sR_ne, fI_sR, aI_sR, mL_sR, ln_sR, fI_sA, fR_sA, mL_sA, ln_sA, fI_sL, fR_sL, aI_sL, ln_sL, lo_X9_lotInRow_0, lo_X9_lotInRow_1, lo_X9_lotInRow_4, lo_X9_lotInRow_5, lo_X9_lotInRow_6, lo_X9_lotInRow_9, lo_X9_lotInRow_12, lo_X9_lotInRow_15, lo_X9_lotInRow_16, lo_X9_lotInRow_17, lo_X9_lotInRow_18, lo_X9_lotInRow_21, lo_X9_lotInRow_22, lo_X9_lotInRow_25, lo_X9_lotInRow_28, lo_X9_lotInRow_31, f2_Jx4a65c_size_8abf5, f2_Jx4a65c_get_915e3, e4, h1, h2, h3, e5]
        exact fun w => absurd y (Int32.not_le.mpr w)
      · have e5 : (Int32.ofNat (mL M t).length ≤ i) = False := eq_false y
        have e7 : (0 ≤ i) = True := eq_true (Int32.not_lt.mp z)
        have e8 : (i < Int32.ofNat (mL M t).length) = True := eq_true (Int32.not_le.mp y)
        obtain ⟨j, hj, rfl⟩ := kx_int (Int32.not_lt.mp z) (Int32.not_le.mp y) (by omega)
        obtain ⟨x, hx⟩ : ∃ x, (mL M t)[(nI j).toNatClampNeg]? = some x := by
          rw [nI_clamp (by omega)]
          exact ⟨_, List.getElem?_eq_getElem hj⟩
        have h6 := h5 x (List.mem_of_getElem? hx)
        rw [hx]
        refine en_X9_lotInRow E (Nat.le_of_ble_eq_true rfl) (fun G hG => kx_run_ok hG (kx_in []) 40 _ _ _ _ _ _ ?_)
        simp only [kx_run_s, kx_run_z, kx_in, kx_beq, decide_true, decide_false, cond_true, cond_false, t_push, t_il, t_ll, t_al, t_is, t_ls, t_as, t_inc, t_bin, t_dv, t_lbin, t_lcmp, t_itl, t_dup, t_pop, t_dupx, t_go, t_gk, cutL, t_if, t_ic, t_nul, t_acmp, t_gI, t_gR, t_pI, t_pZ, t_pR, t_new, t_nwa, t_ial, t_ias, t_aln, t_cst, t_sln, t_sld, t_iret, t_zret, t_lret, t_aret, t_vret, t_no, t_call, t_fun, t_sw, sw_to0, t_oin, t_mm, t_qal, t_qas, t_qln, t_nwq, t_gcl, t_acp, lk, up1, cl1, up2, cl2, kx_c2, lv_args, kx_sum, kx_isr_r, kx_isr_n, kx_isr_v, kx_ex_r, kx_ex_n, kx_ex_v, kx_ex2_r, kx_ex2_n, kx_ex2_v, va_rf_s, va_rf_n, Value.ref.injEq, reduceCtorEq, exists_eq_left', exists_eq_left, exists_eq', exists_eq, true_and, and_true, false_and, and_false, List.length_cons, List.length_nil, List.take_succ_cons, List.take_zero, List.drop_succ_cons, List.drop_zero, List.reverse_cons, List.reverse_nil, List.nil_append, List.cons_append, List.append_nil, List.getElem?_cons_zero, List.getElem?_cons_succ, List.map_cons, List.map_nil, List.sum_cons, List.sum_nil, kx_cat_i, kx_cat_r, kx_cat_n, kx_cat_l, kx_cat_v, Nat.reduceAdd, Nat.reduceSub, Nat.reduceEqDiff, Nat.reduceLeDiff, Nat.reduceMul, Nat.reduceLT, Nat.add_zero, Nat.zero_add, Nat.sub_zero, Nat.sub_self, Nat.le_refl, Nat.zero_le, ↓reduceIte, not_true_eq_false, not_false_eq_true, or_true, true_or, or_false, false_or, Option.some.injEq, ne_eq, implies_true, forall_const, forall_eq', forall_eq, and_self, or_self, Bool.or_true, Bool.or_false, Bool.true_or, Bool.false_or, Bool.and_true, Bool.and_false, Bool.true_and, Bool.false_and, Option.toList_some, Option.toList_none, Nat.succ_ne_zero, false_implies, true_implies, kx_l0, kd_sI, kd_sR, kd_sA, kd_sL, fI_sI_eq, fI_sI_ne, fR_sI, aI_sI, mL_sI, ln_sI, fR_sR_eq, fR_sR_ne, fI_sR, aI_sR, mL_sR, ln_sR, fI_sA, fR_sA, mL_sA, ln_sA, fI_sL, fR_sL, aI_sL, ln_sL, lo_X9_lotInRow_0, lo_X9_lotInRow_1, lo_X9_lotInRow_4, lo_X9_lotInRow_5, lo_X9_lotInRow_6, lo_X9_lotInRow_9, lo_X9_lotInRow_12, lo_X9_lotInRow_15, lo_X9_lotInRow_16, lo_X9_lotInRow_17, lo_X9_lotInRow_18, lo_X9_lotInRow_21, lo_X9_lotInRow_22, lo_X9_lotInRow_25, lo_X9_lotInRow_28, lo_X9_lotInRow_31, f2_Jx4a65c_size_8abf5, f2_Jx4a65c_get_915e3, e4, h1, h2, h3, e5, e7, e8, hx, h6]
  · intro h; exact h.elim
theorem f2_X9_lotInRow_rc (E : kx_E) {av : List Value} {M : kx_M} (h : (f2_X9_lotInRow E av M).1) : ∃ (a : Nat) (as : List Value), av = .ref a :: as ∧ kd M a = 11 := by
  unfold f2_X9_lotInRow at h
  split at h
  · exact ⟨_, _, rfl, h.1⟩
  · exact h.elim
set_option maxRecDepth 8000 in
theorem f2_X9_hoursUntilReady_ok (E : kx_E) {av : List Value} {M : kx_M} (h : (f2_X9_hoursUntilReady E av M).1) : c2t_X9_hoursUntilReady E av M 0 0 (fun v M1 => v.toList = (f2_X9_hoursUntilReady E av M).2.1 ∧ M1 = (f2_X9_hoursUntilReady E av M).2.2) := by
  revert h
  unfold f2_X9_hoursUntilReady
  split
  · rename_i m c
    intro h
    obtain ⟨h1, h2, g, h3, h4⟩ := h
    refine en_X9_hoursUntilReady E (Nat.le_of_ble_eq_true rfl) (fun G hG => kx_run_ok hG (kx_in []) 60 _ _ _ _ _ _ ?_)
    simp only [kx_run_s, kx_run_z, kx_in, kx_beq, decide_true, decide_false, cond_true, cond_false, t_push, t_il, t_ll, t_al, t_is, t_ls, t_as, t_inc, t_bin, t_dv, t_lbin, t_lcmp, t_itl, t_dup, t_pop, t_dupx, t_go, t_gk, cutL, t_if, t_ic, t_nul, t_acmp, t_gI, t_gR, t_pI, t_pZ, t_pR, t_new, t_nwa, t_ial, t_ias, t_aln, t_cst, t_sln, t_sld, t_iret, t_zret, t_lret, t_aret, t_vret, t_no, t_call, t_fun, t_sw, sw_to0, t_oin, t_mm, t_qal, t_qas, t_qln, t_nwq, t_gcl, t_acp, lk, up1, cl1, up2, cl2, kx_c2, lv_args, kx_sum, kx_isr_r, kx_isr_n, kx_isr_v, kx_ex_r, kx_ex_n, kx_ex_v, kx_ex2_r, kx_ex2_n, kx_ex2_v, va_rf_s, va_rf_n, Value.ref.injEq, reduceCtorEq, exists_eq_left', exists_eq_left, exists_eq', exists_eq, true_and, and_true, false_and, and_false, List.length_cons, List.length_nil, List.take_succ_cons, List.take_zero, List.drop_succ_cons, List.drop_zero, List.reverse_cons, List.reverse_nil, List.nil_append, List.cons_append, List.append_nil, List.getElem?_cons_zero, List.getElem?_cons_succ, List.map_cons, List.map_nil, List.sum_cons, List.sum_nil, kx_cat_i, kx_cat_r, kx_cat_n, kx_cat_l, kx_cat_v, Nat.reduceAdd, Nat.reduceSub, Nat.reduceEqDiff, Nat.reduceLeDiff, Nat.reduceMul, Nat.reduceLT, Nat.add_zero, Nat.zero_add, Nat.sub_zero, Nat.sub_self, Nat.le_refl, Nat.zero_le, ↓reduceIte, not_true_eq_false, not_false_eq_true, or_true, true_or, or_false, false_or, Option.some.injEq, ne_eq, implies_true, forall_const, forall_eq', forall_eq, and_self, or_self, Bool.or_true, Bool.or_false, Bool.true_or, Bool.false_or, Bool.and_true, Bool.and_false, Bool.true_and, Bool.false_and, Option.toList_some, Option.toList_none, Nat.succ_ne_zero, false_implies, true_implies, kx_l0, kd_sI, kd_sR, kd_sA, kd_sL, fI_sI_eq, fI_sI_ne, fR_sI, aI_sI, mL_sI, ln_sI, fR_sR_eq, fR_sR_ne, fI_sR, aI_sR, mL_sR, ln_sR, fI_sA, fR_sA, mL_sA, ln_sA, fI_sL, fR_sL, aI_sL, ln_sL, lo_X9_hoursUntilReady_0, lo_X9_hoursUntilReady_1, lo_X9_hoursUntilReady_4, lo_X9_hoursUntilReady_7, lo_X9_hoursUntilReady_8, lo_X9_hoursUntilReady_9, lo_X9_hoursUntilReady_10, lo_X9_hoursUntilReady_13, lo_X9_hoursUntilReady_14, lo_X9_hoursUntilReady_17, lo_X9_hoursUntilReady_20, lo_X9_hoursUntilReady_21, lo_X9_hoursUntilReady_22, lo_X9_hoursUntilReady_23, lo_X9_hoursUntilReady_24, lo_X9_hoursUntilReady_27, lo_X9_hoursUntilReady_28, lo_X9_hoursUntilReady_29, lo_X9_hoursUntilReady_30, lo_X9_hoursUntilReady_33, lo_X9_hoursUntilReady_36, lo_X9_hoursUntilReady_37, lo_X9_hoursUntilReady_40, lo_X9_hoursUntilReady_41, lo_X9_hoursUntilReady_42, lo_X9_hoursUntilReady_43, lo_X9_hoursUntilReady_44, lo_X9_hoursUntilReady_45, lo_X9_hoursUntilReady_46, lo_X9_hoursUntilReady_47, f2_X9_sumAsked, h1, h2, h3, h4, vReady, rf, Option.getD_some]
    refine ⟨fun z => ⟨fun y => ⟨?_, ?_⟩, fun y => ?_⟩, fun z => ?_⟩
    · intro e0; rw [e0] at y; exact absurd y (by decide)
    · rw [if_pos z, if_neg (Int32.not_lt.mpr y)]
    · rw [if_pos z, if_pos (Int32.not_le.mp y)]
    · rw [if_neg z]
  · intro h; exact h.elim
theorem f2_X9_hoursUntilReady_rc (E : kx_E) {av : List Value} {M : kx_M} (h : (f2_X9_hoursUntilReady E av M).1) : ∃ (a : Nat) (as : List Value), av = .ref a :: as ∧ kd M a = 11 := by
  unfold f2_X9_hoursUntilReady at h
  split at h
  · exact ⟨_, _, rfl, h.1⟩
  · exact h.elim
