set_option maxRecDepth 16000 in
theorem f2_X9_lamps_ok (E : kx_E) {av : List Value} {M : kx_M} (h : (f2_X9_lamps E av M).1) : c2t_X9_lamps E av M 0 0 (fun v M1 => v.toList = (f2_X9_lamps E av M).2.1 ∧ M1 = (f2_X9_lamps E av M).2.2) := by
  revert h
  unfold f2_X9_lamps
  split
  · rename_i m i w
    intro h
    obtain ⟨⟨h1, t, x, h2, h3, h4, h5, h6, h7⟩, h8, h9⟩ := h
    have hr : rf M 200 m = t := by unfold rf; rw [h2]; rfl
    have he : el M 200 m i = x := by unfold el; rw [hr, h6]; rfl
    rw [he]
    have e8 : (w < 0) = False := eq_false (Int32.not_lt.mpr h8)
    have e9 : (3 < w) = False := eq_false (Int32.not_lt.mpr h9)
    refine en_X9_lamps E (Nat.le_of_ble_eq_true rfl) (fun G hG => kx_run_ok hG (kx_in []) 90 _ _ _ _ _ _ ?_)
    simp only [kx_run_s, kx_run_z, kx_in, kx_beq, decide_true, decide_false, cond_true, cond_false, t_push, t_il, t_ll, t_al, t_is, t_ls, t_as, t_inc, t_bin, t_dv, t_lbin, t_lcmp, t_itl, t_dup, t_pop, t_dupx, t_go, t_gk, cutL, t_if, t_ic, t_nul, t_acmp, t_gI, t_gR, t_pI, t_pZ, t_pR, t_new, t_nwa, t_ial, t_ias, t_aln, t_cst, t_sln, t_sld, t_iret, t_zret, t_lret, t_aret, t_vret, t_no, t_call, t_fun, t_sw, sw_to0, t_oin, t_mm, t_qal, t_qas, t_qln, t_nwq, t_gcl, t_acp, lk, up1, cl1, up2, cl2, kx_c2, lv_args, kx_sum, kx_isr_r, kx_isr_n, kx_isr_v, kx_ex_r, kx_ex_n, kx_ex_v, kx_ex2_r, kx_ex2_n, kx_ex2_v, va_rf_s, va_rf_n, Value.ref.injEq, reduceCtorEq, exists_eq_left', exists_eq_left, exists_eq', exists_eq, true_and, and_true, false_and, and_false, List.length_cons, List.length_nil, List.take_succ_cons, List.take_zero, List.drop_succ_cons, List.drop_zero, List.reverse_cons, List.reverse_nil, List.nil_append, List.cons_append, List.append_nil, List.getElem?_cons_zero, List.getElem?_cons_succ, List.map_cons, List.map_nil, List.sum_cons, List.sum_nil, kx_cat_i, kx_cat_r, kx_cat_n, kx_cat_l, kx_cat_v, Nat.reduceAdd, Nat.reduceSub, Nat.reduceEqDiff, Nat.reduceLeDiff, Nat.reduceMul, Nat.reduceLT, Nat.add_zero, Nat.zero_add, Nat.sub_zero, Nat.sub_self, Nat.le_refl, Nat.zero_le, ↓reduceIte, not_true_eq_false, not_false_eq_true, or_true, true_or, or_false, false_or, Option.some.injEq, ne_eq, implies_true, forall_const, forall_eq', forall_eq, and_self, or_self, Bool.or_true, Bool.or_false, Bool.true_or, Bool.false_or, Bool.and_true, Bool.and_false, Bool.true_and, Bool.false_and, Option.toList_some, Option.toList_none, Nat.succ_ne_zero, false_implies, true_implies, kx_l0, kd_sI, kd_sR, kd_sA, kd_sL, fI_sI_eq, fI_sI_ne, fR_sI, aI_sI, mL_sI, ln_sI, fR_sR_eq, fR_sR_ne, fI_sR, aI_sR, mL_sR, ln_sR, fI_sA, fR_sA, mL_sA, ln_sA, fI_sL, fR_sL, aI_sL, ln_sL, lo_X9_lamps_0, lo_X9_lamps_1, lo_X9_lamps_2, lo_X9_lamps_5, lo_X9_lamps_6, lo_X9_lamps_7, lo_X9_lamps_8, lo_X9_lamps_9, lo_X9_lamps_12, lo_X9_lamps_15, lo_X9_lamps_25, lo_X9_lamps_26, lo_X9_lamps_29, lo_X9_lamps_31, lo_X9_lamps_32, lo_X9_lamps_33, lo_X9_lamps_36, lo_X9_lamps_38, f2_X9_growerAt, f2_X9_isWithin, h1, h2, h3, h4, h5, h6, h7, hr, vIn, kx_10, e8, e9]
  · intro h; exact h.elim
theorem f2_X9_lamps_rc (E : kx_E) {av : List Value} {M : kx_M} (h : (f2_X9_lamps E av M).1) : ∃ (a : Nat) (as : List Value), av = .ref a :: as ∧ kd M a = 11 := by
  unfold f2_X9_lamps at h
  split at h
  · exact ⟨_, _, rfl, h.1.1⟩
  · exact h.elim
set_option maxRecDepth 16000 in
theorem f2_X9_even_ok (E : kx_E) {av : List Value} {M : kx_M} (h : (f2_X9_even E av M).1) : c2t_X9_even E av M 0 0 (fun v M1 => v.toList = (f2_X9_even E av M).2.1 ∧ M1 = (f2_X9_even E av M).2.2) := by
  revert h
  unfold f2_X9_even
  split
  · rename_i m i w
    intro h
    obtain ⟨⟨h1, t, x, h2, h3, h4, h5, h6, h7⟩, h8, h9⟩ := h
    have hr : rf M 204 m = t := by unfold rf; rw [h2]; rfl
    have he : el M 204 m i = x := by unfold el; rw [hr, h6]; rfl
    rw [he]
    have e8 : (w < 0) = False := eq_false (Int32.not_lt.mpr h8)
    have e9 : (9 < w) = False := eq_false (Int32.not_lt.mpr h9)
    refine en_X9_even E (Nat.le_of_ble_eq_true rfl) (fun G hG => kx_run_ok hG (kx_in []) 90 _ _ _ _ _ _ ?_)
    simp only [kx_run_s, kx_run_z, kx_in, kx_beq, decide_true, decide_false, cond_true, cond_false, t_push, t_il, t_ll, t_al, t_is, t_ls, t_as, t_inc, t_bin, t_dv, t_lbin, t_lcmp, t_itl, t_dup, t_pop, t_dupx, t_go, t_gk, cutL, t_if, t_ic, t_nul, t_acmp, t_gI, t_gR, t_pI, t_pZ, t_pR, t_new, t_nwa, t_ial, t_ias, t_aln, t_cst, t_sln, t_sld, t_iret, t_zret, t_lret, t_aret, t_vret, t_no, t_call, t_fun, t_sw, sw_to0, t_oin, t_mm, t_qal, t_qas, t_qln, t_nwq, t_gcl, t_acp, lk, up1, cl1, up2, cl2, kx_c2, lv_args, kx_sum, kx_isr_r, kx_isr_n, kx_isr_v, kx_ex_r, kx_ex_n, kx_ex_v, kx_ex2_r, kx_ex2_n, kx_ex2_v, va_rf_s, va_rf_n, Value.ref.injEq, reduceCtorEq, exists_eq_left', exists_eq_left, exists_eq', exists_eq, true_and, and_true, false_and, and_false, List.length_cons, List.length_nil, List.take_succ_cons, List.take_zero, List.drop_succ_cons, List.drop_zero, List.reverse_cons, List.reverse_nil, List.nil_append, List.cons_append, List.append_nil, List.getElem?_cons_zero, List.getElem?_cons_succ, List.map_cons, List.map_nil, List.sum_cons, List.sum_nil, kx_cat_i, kx_cat_r, kx_cat_n, kx_cat_l, kx_cat_v, Nat.reduceAdd, Nat.reduceSub, Nat.reduceEqDiff, Nat.reduceLeDiff, Nat.reduceMul, Nat.reduceLT, Nat.add_zero, Nat.zero_add, Nat.sub_zero, Nat.sub_self, Nat.le_refl, Nat.zero_le, ↓reduceIte, not_true_eq_false, not_false_eq_true, or_true, true_or, or_false, false_or, Option.some.injEq, ne_eq, implies_true, forall_const, forall_eq', forall_eq, and_self, or_self, Bool.or_true, Bool.or_false, Bool.true_or, Bool.false_or, Bool.and_true, Bool.and_false, Bool.true_and, Bool.false_and, Option.toList_some, Option.toList_none, Nat.succ_ne_zero, false_implies, true_implies, kx_l0, kd_sI, kd_sR, kd_sA, kd_sL, fI_sI_eq, fI_sI_ne, fR_sI, aI_sI, mL_sI, ln_sI, fR_sR_eq, fR_sR_ne, fI_sR, aI_sR, mL_sR, ln_sR, fI_sA, fR_sA, mL_sA, ln_sA, fI_sL, fR_sL, aI_sL, ln_sL, lo_X9_even_0, lo_X9_even_1, lo_X9_even_2, lo_X9_even_5, lo_X9_even_6, lo_X9_even_7, lo_X9_even_8, lo_X9_even_10, lo_X9_even_13, lo_X9_even_16, lo_X9_even_26, lo_X9_even_27, lo_X9_even_30, lo_X9_even_32, lo_X9_even_33, lo_X9_even_34, lo_X9_even_37, lo_X9_even_39, f2_X9_buyerAt, f2_X9_isWithin, h1, h2, h3, h4, h5, h6, h7, hr, vIn, kx_10, e8, e9]
  · intro h; exact h.elim
theorem f2_X9_even_rc (E : kx_E) {av : List Value} {M : kx_M} (h : (f2_X9_even E av M).1) : ∃ (a : Nat) (as : List Value), av = .ref a :: as ∧ kd M a = 11 := by
  unfold f2_X9_even at h
  split at h
  · exact ⟨_, _, rfl, h.1.1⟩
  · exact h.elim
set_option maxRecDepth 16000 in
theorem f2_X9_leave_ok (E : kx_E) {av : List Value} {M : kx_M} (h : (f2_X9_leave E av M).1) : c2t_X9_leave E av M 0 0 (fun v M1 => v.toList = (f2_X9_leave E av M).2.1 ∧ M1 = (f2_X9_leave E av M).2.2) := by
  revert h
  unfold f2_X9_leave
  split
  · rename_i m i w
    intro h
    obtain ⟨⟨h1, t, x, h2, h3, h4, h5, h6, h7⟩, h8, h9⟩ := h
    have hr : rf M 204 m = t := by unfold rf; rw [h2]; rfl
    have he : el M 204 m i = x := by unfold el; rw [hr, h6]; rfl
    rw [he]
    have e8 : (w < -1) = False := eq_false (Int32.not_lt.mpr h8)
    have e9 : (9999 < w) = False := eq_false (Int32.not_lt.mpr h9)
    refine en_X9_leave E (Nat.le_of_ble_eq_true rfl) (fun G hG => kx_run_ok hG (kx_in []) 90 _ _ _ _ _ _ ?_)
    simp only [kx_run_s, kx_run_z, kx_in, kx_beq, decide_true, decide_false, cond_true, cond_false, t_push, t_il, t_ll, t_al, t_is, t_ls, t_as, t_inc, t_bin, t_dv, t_lbin, t_lcmp, t_itl, t_dup, t_pop, t_dupx, t_go, t_gk, cutL, t_if, t_ic, t_nul, t_acmp, t_gI, t_gR, t_pI, t_pZ, t_pR, t_new, t_nwa, t_ial, t_ias, t_aln, t_cst, t_sln, t_sld, t_iret, t_zret, t_lret, t_aret, t_vret, t_no, t_call, t_fun, t_sw, sw_to0, t_oin, t_mm, t_qal, t_qas, t_qln, t_nwq, t_gcl, t_acp, lk, up1, cl1, up2, cl2, kx_c2, lv_args, kx_sum, kx_isr_r, kx_isr_n, kx_isr_v, kx_ex_r, kx_ex_n, kx_ex_v, kx_ex2_r, kx_ex2_n, kx_ex2_v, va_rf_s, va_rf_n, Value.ref.injEq, reduceCtorEq, exists_eq_left', exists_eq_left, exists_eq', exists_eq, true_and, and_true, false_and, and_false, List.length_cons, List.length_nil, List.take_succ_cons, List.take_zero, List.drop_succ_cons, List.drop_zero, List.reverse_cons, List.reverse_nil, List.nil_append, List.cons_append, List.append_nil, List.getElem?_cons_zero, List.getElem?_cons_succ, List.map_cons, List.map_nil, List.sum_cons, List.sum_nil, kx_cat_i, kx_cat_r, kx_cat_n, kx_cat_l, kx_cat_v, Nat.reduceAdd, Nat.reduceSub, Nat.reduceEqDiff, Nat.reduceLeDiff, Nat.reduceMul, Nat.reduceLT, Nat.add_zero, Nat.zero_add, Nat.sub_zero, Nat.sub_self, Nat.le_refl, Nat.zero_le, ↓reduceIte, not_true_eq_false, not_false_eq_true, or_true, true_or, or_false, false_or, Option.some.injEq, ne_eq, implies_true, forall_const, forall_eq', forall_eq, and_self, or_self, Bool.or_true, Bool.or_false, Bool.true_or, Bool.false_or, Bool.and_true, Bool.and_false, Bool.true_and, Bool.false_and, Option.toList_some, Option.toList_none, Nat.succ_ne_zero, false_implies, true_implies, kx_l0, kd_sI, kd_sR, kd_sA, kd_sL, fI_sI_eq, fI_sI_ne, fR_sI, aI_sI, mL_sI, ln_sI, fR_sR_eq, fR_sR_ne, fI_sR, aI_sR, mL_sR, ln_sR, fI_sA, fR_sA, mL_sA, ln_sA, fI_sL, fR_sL, aI_sL, ln_sL, lo_X9_leave_0, lo_X9_leave_1, lo_X9_leave_2, lo_X9_leave_5, lo_X9_leave_6, lo_X9_leave_7, lo_X9_leave_8, lo_X9_leave_11, lo_X9_leave_14, lo_X9_leave_17, lo_X9_leave_27, lo_X9_leave_28, lo_X9_leave_31, lo_X9_leave_33, lo_X9_leave_34, lo_X9_leave_35, lo_X9_leave_38, lo_X9_leave_40, f2_X9_buyerAt, f2_X9_isWithin, h1, h2, h3, h4, h5, h6, h7, hr, vIn, kx_10, e8, e9]
  · intro h; exact h.elim
theorem f2_X9_leave_rc (E : kx_E) {av : List Value} {M : kx_M} (h : (f2_X9_leave E av M).1) : ∃ (a : Nat) (as : List Value), av = .ref a :: as ∧ kd M a = 11 := by
  unfold f2_X9_leave at h
  split at h
  · exact ⟨_, _, rfl, h.1.1⟩
  · exact h.elim
set_option maxRecDepth 16000 in
theorem f2_X9_clear_ok (E : kx_E) {av : List Value} {M : kx_M} (h : (f2_X9_clear E av M).1) : c2t_X9_clear E av M 0 0 (fun v M1 => v.toList = (f2_X9_clear E av M).2.1 ∧ M1 = (f2_X9_clear E av M).2.2) := by
  revert h
  unfold f2_X9_clear
  split
  · rename_i m i gv
    intro h
    obtain ⟨⟨h1, t, x, h2, h3, h4, h5, h6, h7⟩, h8, g, h9, h10⟩ := h
    have hr : rf M 202 m = t := by unfold rf; rw [h2]; rfl
    have he : el M 202 m i = x := by unfold el; rw [hr, h6]; rfl
    rw [he] at h8 h9 ⊢
    have hg : rf M 121 x = g := by unfold rf; rw [h9]; rfl
    rw [hg]
    refine en_X9_clear E (Nat.le_of_ble_eq_true rfl) (fun G hG => kx_run_ok hG (kx_in []) 90 _ _ _ _ _ _ ?_)
    simp only [kx_run_s, kx_run_z, kx_in, kx_beq, decide_true, decide_false, cond_true, cond_false, t_push, t_il, t_ll, t_al, t_is, t_ls, t_as, t_inc, t_bin, t_dv, t_lbin, t_lcmp, t_itl, t_dup, t_pop, t_dupx, t_go, t_gk, cutL, t_if, t_ic, t_nul, t_acmp, t_gI, t_gR, t_pI, t_pZ, t_pR, t_new, t_nwa, t_ial, t_ias, t_aln, t_cst, t_sln, t_sld, t_iret, t_zret, t_lret, t_aret, t_vret, t_no, t_call, t_fun, t_sw, sw_to0, t_oin, t_mm, t_qal, t_qas, t_qln, t_nwq, t_gcl, t_acp, lk, up1, cl1, up2, cl2, kx_c2, lv_args, kx_sum, kx_isr_r, kx_isr_n, kx_isr_v, kx_ex_r, kx_ex_n, kx_ex_v, kx_ex2_r, kx_ex2_n, kx_ex2_v, va_rf_s, va_rf_n, Value.ref.injEq, reduceCtorEq, exists_eq_left', exists_eq_left, exists_eq', exists_eq, true_and, and_true, false_and, and_false, List.length_cons, List.length_nil, List.take_succ_cons, List.take_zero, List.drop_succ_cons, List.drop_zero, List.reverse_cons, List.reverse_nil, List.nil_append, List.cons_append, List.append_nil, List.getElem?_cons_zero, List.getElem?_cons_succ, List.map_cons, List.map_nil, List.sum_cons, List.sum_nil, kx_cat_i, kx_cat_r, kx_cat_n, kx_cat_l, kx_cat_v, Nat.reduceAdd, Nat.reduceSub, Nat.reduceEqDiff, Nat.reduceLeDiff, Nat.reduceMul, Nat.reduceLT, Nat.add_zero, Nat.zero_add, Nat.sub_zero, Nat.sub_self, Nat.le_refl, Nat.zero_le, ↓reduceIte, not_true_eq_false, not_false_eq_true, or_true, true_or, or_false, false_or, Option.some.injEq, ne_eq, implies_true, forall_const, forall_eq', forall_eq, and_self, or_self, Bool.or_true, Bool.or_false, Bool.true_or, Bool.false_or, Bool.and_true, Bool.and_false, Bool.true_and, Bool.false_and, Option.toList_some, Option.toList_none, Nat.succ_ne_zero, false_implies, true_implies, kx_l0, kd_sI, kd_sR, kd_sA, kd_sL, fI_sI_eq, fI_sI_ne, fR_sI, aI_sI, mL_sI, ln_sI, fR_sR_eq, fR_sR_ne, fI_sR, aI_sR, mL_sR, ln_sR, fI_sA, fR_sA, mL_sA, ln_sA, fI_sL, fR_sL, aI_sL, ln_sL, lo_X9_clear_0, lo_X9_clear_1, lo_X9_clear_2, lo_X9_clear_5, lo_X9_clear_6, lo_X9_clear_7, lo_X9_clear_10, lo_X9_clear_13, lo_X9_clear_24, lo_X9_clear_25, lo_X9_clear_28, lo_X9_clear_30, lo_X9_clear_31, lo_X9_clear_32, lo_X9_clear_35, lo_X9_clear_37, lo_X9_clear_38, lo_X9_clear_41, lo_X9_clear_42, lo_X9_clear_43, lo_X9_clear_46, lo_X9_clear_47, lo_X9_clear_50, lo_X9_clear_51, lo_X9_clear_54, lo_X9_clear_55, lo_X9_clear_56, lo_X9_clear_59, lo_X9_clear_60, lo_X9_clear_61, lo_X9_clear_64, lo_X9_clear_65, lo_X9_clear_66, lo_X9_clear_69, lo_X9_clear_70, lo_X9_clear_73, lo_X9_clear_74, lo_X9_clear_77, lo_X9_clear_79, lo_X9_clear_80, lo_X9_clear_83, lo_X9_clear_86, lo_X9_clear_87, lo_X9_clear_88, lo_X9_clear_91, lo_X9_clear_94, lo_X9_clear_96, f2_X9_lotAt, h1, h2, h3, h4, h5, h6, h7, hr, vIn, kx_10, h8, h9, h10, eClear, vMin]
    simp +contextual [-Int32.not_lt, -Int32.not_le]
  · intro h; exact h.elim
theorem f2_X9_clear_rc (E : kx_E) {av : List Value} {M : kx_M} (h : (f2_X9_clear E av M).1) : ∃ (a : Nat) (as : List Value), av = .ref a :: as ∧ kd M a = 11 := by
  unfold f2_X9_clear at h
  split at h
  · exact ⟨_, _, rfl, h.1.1⟩
  · exact h.elim
set_option maxRecDepth 16000 in
theorem f2_X9_back_ok (E : kx_E) {av : List Value} {M : kx_M} (h : (f2_X9_back E av M).1) : c2t_X9_back E av M 0 0 (fun v M1 => v.toList = (f2_X9_back E av M).2.1 ∧ M1 = (f2_X9_back E av M).2.2) := by
  revert h
  unfold f2_X9_back
  split
  · rename_i m i w
    intro h
    obtain ⟨⟨h1, t, x, h2, h3, h4, h5, h6, h7⟩, h8, h9⟩ := h
    have hr : rf M 204 m = t := by unfold rf; rw [h2]; rfl
    have he : el M 204 m i = x := by unfold el; rw [hr, h6]; rfl
    rw [he] at h9 ⊢
    have e8 : (w < 1) = False := eq_false (Int32.not_lt.mpr h8)
    have e9 : (fI M 26 x < w) = False := eq_false (Int32.not_lt.mpr h9)
    refine en_X9_back E (Nat.le_of_ble_eq_true rfl) (fun G hG => kx_run_ok hG (kx_in []) 90 _ _ _ _ _ _ ?_)
    simp only [kx_run_s, kx_run_z, kx_in, kx_beq, decide_true, decide_false, cond_true, cond_false, t_push, t_il, t_ll, t_al, t_is, t_ls, t_as, t_inc, t_bin, t_dv, t_lbin, t_lcmp, t_itl, t_dup, t_pop, t_dupx, t_go, t_gk, cutL, t_if, t_ic, t_nul, t_acmp, t_gI, t_gR, t_pI, t_pZ, t_pR, t_new, t_nwa, t_ial, t_ias, t_aln, t_cst, t_sln, t_sld, t_iret, t_zret, t_lret, t_aret, t_vret, t_no, t_call, t_fun, t_sw, sw_to0, t_oin, t_mm, t_qal, t_qas, t_qln, t_nwq, t_gcl, t_acp, lk, up1, cl1, up2, cl2, kx_c2, lv_args, kx_sum, kx_isr_r, kx_isr_n, kx_isr_v, kx_ex_r, kx_ex_n, kx_ex_v, kx_ex2_r, kx_ex2_n, kx_ex2_v, va_rf_s, va_rf_n, Value.ref.injEq, reduceCtorEq, exists_eq_left', exists_eq_left, exists_eq', exists_eq, true_and, and_true, false_and, and_false, List.length_cons, List.length_nil, List.take_succ_cons, List.take_zero, List.drop_succ_cons, List.drop_zero, List.reverse_cons, List.reverse_nil, List.nil_append, List.cons_append, List.append_nil, List.getElem?_cons_zero, List.getElem?_cons_succ, List.map_cons, List.map_nil, List.sum_cons, List.sum_nil, kx_cat_i, kx_cat_r, kx_cat_n, kx_cat_l, kx_cat_v, Nat.reduceAdd, Nat.reduceSub, Nat.reduceEqDiff, Nat.reduceLeDiff, Nat.reduceMul, Nat.reduceLT, Nat.add_zero, Nat.zero_add, Nat.sub_zero, Nat.sub_self, Nat.le_refl, Nat.zero_le, ↓reduceIte, not_true_eq_false, not_false_eq_true, or_true, true_or, or_false, false_or, Option.some.injEq, ne_eq, implies_true, forall_const, forall_eq', forall_eq, and_self, or_self, Bool.or_true, Bool.or_false, Bool.true_or, Bool.false_or, Bool.and_true, Bool.and_false, Bool.true_and, Bool.false_and, Option.toList_some, Option.toList_none, Nat.succ_ne_zero, false_implies, true_implies, kx_l0, kd_sI, kd_sR, kd_sA, kd_sL, fI_sI_eq, fI_sI_ne, fR_sI, aI_sI, mL_sI, ln_sI, fR_sR_eq, fR_sR_ne, fI_sR, aI_sR, mL_sR, ln_sR, fI_sA, fR_sA, mL_sA, ln_sA, fI_sL, fR_sL, aI_sL, ln_sL, lo_X9_back_0, lo_X9_back_1, lo_X9_back_2, lo_X9_back_5, lo_X9_back_6, lo_X9_back_7, lo_X9_back_8, lo_X9_back_11, lo_X9_back_22, lo_X9_back_23, lo_X9_back_24, lo_X9_back_27, lo_X9_back_30, lo_X9_back_41, lo_X9_back_42, lo_X9_back_43, lo_X9_back_46, lo_X9_back_47, lo_X9_back_48, lo_X9_back_51, lo_X9_back_52, lo_X9_back_53, lo_X9_back_56, lo_X9_back_57, lo_X9_back_58, lo_X9_back_61, lo_X9_back_62, lo_X9_back_63, lo_X9_back_66, lo_X9_back_67, lo_X9_back_68, lo_X9_back_69, lo_X9_back_70, lo_X9_back_73, lo_X9_back_74, lo_X9_back_75, lo_X9_back_78, lo_X9_back_79, lo_X9_back_80, lo_X9_back_81, lo_X9_back_82, lo_X9_back_85, lo_X9_back_86, lo_X9_back_89, f2_X9_buyerAt, h1, h2, h3, h4, h5, h6, h7, hr, vIn, kx_10, e8, h8, h9, e9, eBack]
  · intro h; exact h.elim
theorem f2_X9_back_rc (E : kx_E) {av : List Value} {M : kx_M} (h : (f2_X9_back E av M).1) : ∃ (a : Nat) (as : List Value), av = .ref a :: as ∧ kd M a = 11 := by
  unfold f2_X9_back at h
  split at h
  · exact ⟨_, _, rfl, h.1.1⟩
  · exact h.elim
set_option maxRecDepth 16000 in
theorem f2_X9_inspect_ok (E : kx_E) {av : List Value} {M : kx_M} (h : (f2_X9_inspect E av M).1) : c2t_X9_inspect E av M 0 0 (fun v M1 => v.toList = (f2_X9_inspect E av M).2.1 ∧ M1 = (f2_X9_inspect E av M).2.2) := by
  revert h
  unfold f2_X9_inspect
  split
  · rename_i m i
    intro h
    obtain ⟨⟨h1, t, x, h2, h3, h4, h5, h6, h7⟩, h8, g, h9, h10⟩ := h
    have hr : rf M 202 m = t := by unfold rf; rw [h2]; rfl
    have he : el M 202 m i = x := by unfold el; rw [hr, h6]; rfl
    rw [he] at h8 h9 ⊢
    have hg : rf M 121 x = g := by unfold rf; rw [h9]; rfl
    rw [hg]
    refine en_X9_inspect E (Nat.le_of_ble_eq_true rfl) (fun G hG => kx_run_ok hG (kx_in []) 90 _ _ _ _ _ _ ?_)
    simp only [kx_run_s, kx_run_z, kx_in, kx_beq, decide_true, decide_false, cond_true, cond_false, t_push, t_il, t_ll, t_al, t_is, t_ls, t_as, t_inc, t_bin, t_dv, t_lbin, t_lcmp, t_itl, t_dup, t_pop, t_dupx, t_go, t_gk, cutL, t_if, t_ic, t_nul, t_acmp, t_gI, t_gR, t_pI, t_pZ, t_pR, t_new, t_nwa, t_ial, t_ias, t_aln, t_cst, t_sln, t_sld, t_iret, t_zret, t_lret, t_aret, t_vret, t_no, t_call, t_fun, t_sw, sw_to0, t_oin, t_mm, t_qal, t_qas, t_qln, t_nwq, t_gcl, t_acp, lk, up1, cl1, up2, cl2, kx_c2, lv_args, kx_sum, kx_isr_r, kx_isr_n, kx_isr_v, kx_ex_r, kx_ex_n, kx_ex_v, kx_ex2_r, kx_ex2_n, kx_ex2_v, va_rf_s, va_rf_n, Value.ref.injEq, reduceCtorEq, exists_eq_left', exists_eq_left, exists_eq', exists_eq, true_and, and_true, false_and, and_false, List.length_cons, List.length_nil, List.take_succ_cons, List.take_zero, List.drop_succ_cons, List.drop_zero, List.reverse_cons, List.reverse_nil, List.nil_append, List.cons_append, List.append_nil, List.getElem?_cons_zero, List.getElem?_cons_succ, List.map_cons, List.map_nil, List.sum_cons, List.sum_nil, kx_cat_i, kx_cat_r, kx_cat_n, kx_cat_l, kx_cat_v, Nat.reduceAdd, Nat.reduceSub, Nat.reduceEqDiff, Nat.reduceLeDiff, Nat.reduceMul, Nat.reduceLT, Nat.add_zero, Nat.zero_add, Nat.sub_zero, Nat.sub_self, Nat.le_refl, Nat.zero_le, ↓reduceIte, not_true_eq_false, not_false_eq_true, or_true, true_or, or_false, false_or, Option.some.injEq, ne_eq, implies_true, forall_const, forall_eq', forall_eq, and_self, or_self, Bool.or_true, Bool.or_false, Bool.true_or, Bool.false_or, Bool.and_true, Bool.and_false, Bool.true_and, Bool.false_and, Option.toList_some, Option.toList_none, Nat.succ_ne_zero, false_implies, true_implies, kx_l0, kd_sI, kd_sR, kd_sA, kd_sL, fI_sI_eq, fI_sI_ne, fR_sI, aI_sI, mL_sI, ln_sI, fR_sR_eq, fR_sR_ne, fI_sR, aI_sR, mL_sR, ln_sR, fI_sA, fR_sA, mL_sA, ln_sA, fI_sL, fR_sL, aI_sL, ln_sL, lo_X9_inspect_0, lo_X9_inspect_1, lo_X9_inspect_2, lo_X9_inspect_5, lo_X9_inspect_6, lo_X9_inspect_7, lo_X9_inspect_10, lo_X9_inspect_11, lo_X9_inspect_14, lo_X9_inspect_24, lo_X9_inspect_25, lo_X9_inspect_28, lo_X9_inspect_29, lo_X9_inspect_30, lo_X9_inspect_33, lo_X9_inspect_34, lo_X9_inspect_37, lo_X9_inspect_40, lo_X9_inspect_41, lo_X9_inspect_42, lo_X9_inspect_43, lo_X9_inspect_46, lo_X9_inspect_48, lo_X9_inspect_49, lo_X9_inspect_52, lo_X9_inspect_55, lo_X9_inspect_56, lo_X9_inspect_57, lo_X9_inspect_60, lo_X9_inspect_63, lo_X9_inspect_66, lo_X9_inspect_67, lo_X9_inspect_69, lo_X9_inspect_70, lo_X9_inspect_73, lo_X9_inspect_74, lo_X9_inspect_75, lo_X9_inspect_78, lo_X9_inspect_81, lo_X9_inspect_82, lo_X9_inspect_85, f2_X9_lotAt, h1, h2, h3, h4, h5, h6, h7, hr, vIn, kx_10, h8, h9, h10]
    unfold eInspect vMin vMax
    refine ⟨fun z => ?_, fun z => ?_⟩
    · rw [if_pos z, fI_sI_eq]; exact ⟨rfl, rfl⟩
    · rw [if_neg z, fI_sI_ne _ _ _ _ _ _ (by decide), fI_sI_eq]; exact ⟨rfl, rfl⟩
  · intro h; exact h.elim
theorem f2_X9_inspect_rc (E : kx_E) {av : List Value} {M : kx_M} (h : (f2_X9_inspect E av M).1) : ∃ (a : Nat) (as : List Value), av = .ref a :: as ∧ kd M a = 11 := by
  unfold f2_X9_inspect at h
  split at h
  · exact ⟨_, _, rfl, h.1.1⟩
  · exact h.elim
set_option maxRecDepth 8000 in
theorem f2_X9_many_ok (E : kx_E) {av : List Value} {M : kx_M} (h : (f2_X9_many E av M).1) : c2t_X9_many E av M 0 0 (fun v M1 => v.toList = (f2_X9_many E av M).2.1 ∧ M1 = (f2_X9_many E av M).2.2) := by
  revert h
  unfold f2_X9_many
  split
  · rename_i m w
    intro h
    obtain ⟨h1, h8, h9⟩ := h
    have h0 := h1.1
    have e8 : (w < 0) = False := eq_false (Int32.not_lt.mpr h8)
    have e9 : (15 < w) = False := eq_false (Int32.not_lt.mpr h9)
    refine en_X9_many E (Nat.le_of_ble_eq_true rfl) (fun G hG => kx_run_ok hG (kx_in []) 60 _ _ _ _ _ _ ?_)
    simp only [kx_run_s, kx_run_z, kx_in, kx_beq, decide_true, decide_false, cond_true, cond_false, t_push, t_il, t_ll, t_al, t_is, t_ls, t_as, t_inc, t_bin, t_dv, t_lbin, t_lcmp, t_itl, t_dup, t_pop, t_dupx, t_go, t_gk, cutL, t_if, t_ic, t_nul, t_acmp, t_gI, t_gR, t_pI, t_pZ, t_pR, t_new, t_nwa, t_ial, t_ias, t_aln, t_cst, t_sln, t_sld, t_iret, t_zret, t_lret, t_aret, t_vret, t_no, t_call, t_fun, t_sw, sw_to0, t_oin, t_mm, t_qal, t_qas, t_qln, t_nwq, t_gcl, t_acp, lk, up1, cl1, up2, cl2, kx_c2, lv_args, kx_sum, kx_isr_r, kx_isr_n, kx_isr_v, kx_ex_r, kx_ex_n, kx_ex_v, kx_ex2_r, kx_ex2_n, kx_ex2_v, va_rf_s, va_rf_n, Value.ref.injEq, reduceCtorEq, exists_eq_left', exists_eq_left, exists_eq', exists_eq, true_and, and_true, false_and, and_false, List.length_cons, List.length_nil, List.take_succ_cons, List.take_zero, List.drop_succ_cons, List.drop_zero, List.reverse_cons, List.reverse_nil, List.nil_append, List.cons_append, List.append_nil, List.getElem?_cons_zero, List.getElem?_cons_succ, List.map_cons, List.map_nil, List.sum_cons, List.sum_nil, kx_cat_i, kx_cat_r, kx_cat_n, kx_cat_l, kx_cat_v, Nat.reduceAdd, Nat.reduceSub, Nat.reduceEqDiff, Nat.reduceLeDiff, Nat.reduceMul, Nat.reduceLT, Nat.add_zero, Nat.zero_add, Nat.sub_zero, Nat.sub_self, Nat.le_refl, Nat.zero_le, ↓reduceIte, not_true_eq_false, not_false_eq_true, or_true, true_or, or_false, false_or, Option.some.injEq, ne_eq, implies_true, forall_const, forall_eq', forall_eq, and_self, or_self, Bool.or_true, Bool.or_false, Bool.true_or, Bool.false_or, Bool.and_true, Bool.and_false, Bool.true_and, Bool.false_and, Option.toList_some, Option.toList_none, Nat.succ_ne_zero, false_implies, true_implies, kx_l0, kd_sI, kd_sR, kd_sA, kd_sL, fI_sI_eq, fI_sI_ne, fR_sI, aI_sI, mL_sI, ln_sI, fR_sR_eq, fR_sR_ne, fI_sR, aI_sR, mL_sR, ln_sR, fI_sA, fR_sA, mL_sA, ln_sA, fI_sL, fR_sL, aI_sL, ln_sL, lo_X9_many_0, lo_X9_many_1, lo_X9_many_2, lo_X9_many_4, lo_X9_many_7, lo_X9_many_10, lo_X9_many_21, lo_X9_many_22, lo_X9_many_23, lo_X9_many_26, f2_X9_isWithin, f2_X9_numberOfHall, h0, h1, vIn, e8, e9, kx_10]
  · intro h; exact h.elim
theorem f2_X9_many_rc (E : kx_E) {av : List Value} {M : kx_M} (h : (f2_X9_many E av M).1) : ∃ (a : Nat) (as : List Value), av = .ref a :: as ∧ kd M a = 11 := by
  unfold f2_X9_many at h
  split at h
  · exact ⟨_, _, rfl, h.1.1⟩
  · exact h.elim
