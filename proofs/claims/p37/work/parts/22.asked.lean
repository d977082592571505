set_option maxRecDepth 8000 in
theorem f2_X9_ofCrop_ok (E : kx_E) {av : List Value} {M : kx_M} (h : (f2_X9_ofCrop E av M).1) : c2t_X9_ofCrop E av M 0 0 (fun v M1 => v.toList = (f2_X9_ofCrop E av M).2.1 ∧ M1 = (f2_X9_ofCrop E av M).2.2) := by
  revert h
  unfold f2_X9_ofCrop
  split
  · rename_i m i w
    intro h
    obtain ⟨⟨h1, t, x, h2, h3, h4, h5, h6, h7⟩, h8, h9⟩ := h
    have hr : rf M 201 m = t := by unfold rf; rw [h2]; rfl
    have he : el M 201 m i = x := by unfold el; rw [hr, h6]; rfl
    rw [he]
    have e8 : (w < 0) = False := eq_false (Int32.not_lt.mpr h8)
    have e9 : (5 < w) = False := eq_false (Int32.not_lt.mpr h9)
    refine en_X9_ofCrop E (Nat.le_of_ble_eq_true rfl) (fun G hG => kx_run_ok hG (kx_in []) 60 _ _ _ _ _ _ ?_)
    simp only [kx_run_s, kx_run_z, kx_in, kx_beq, decide_true, decide_false, cond_true, cond_false, t_push, t_il, t_ll, t_al, t_is, t_ls, t_as, t_inc, t_bin, t_dv, t_lbin, t_lcmp, t_itl, t_dup, t_pop, t_dupx, t_go, t_gk, cutL, t_if, t_ic, t_nul, t_acmp, t_gI, t_gR, t_pI, t_pZ, t_pR, t_new, t_nwa, t_ial, t_ias, t_aln, t_cst, t_sln, t_sld, t_iret, t_zret, t_lret, t_aret, t_vret, t_no, t_call, t_fun, t_sw, sw_to0, t_oin, t_mm, t_qal, t_qas, t_qln, t_nwq, t_gcl, t_acp, lk, up1, cl1, up2, cl2, kx_c2, lv_args, kx_sum, kx_isr_r, kx_isr_n, kx_isr_v, kx_ex_r, kx_ex_n, kx_ex_v, kx_ex2_r, kx_ex2_n, kx_ex2_v, va_rf_s, va_rf_n, Value.ref.injEq, reduceCtorEq, exists_eq_left', exists_eq_left, exists_eq', exists_eq, true_and, and_true, false_and, and_false, List.length_cons, List.length_nil, List.take_succ_cons, List.take_zero, List.drop_succ_cons, List.drop_zero, List.reverse_cons, List.reverse_nil, List.nil_append, List.cons_append, List.append_nil, List.getElem?_cons_zero, List.getElem?_cons_succ, List.map_cons, List.map_nil, List.sum_cons, List.sum_nil, kx_cat_i, kx_cat_r, kx_cat_n, kx_cat_l, kx_cat_v, Nat.reduceAdd, Nat.reduceSub, Nat.reduceEqDiff, Nat.reduceLeDiff, Nat.reduceMul, Nat.reduceLT, Nat.add_zero, Nat.zero_add, Nat.sub_zero, Nat.sub_self, Nat.le_refl, Nat.zero_le, ↓reduceIte, not_true_eq_false, not_false_eq_true, or_true, true_or, or_false, false_or, Option.some.injEq, ne_eq, implies_true, forall_const, forall_eq', forall_eq, and_self, or_self, Bool.or_true, Bool.or_false, Bool.true_or, Bool.false_or, Bool.and_true, Bool.and_false, Bool.true_and, Bool.false_and, Option.toList_some, Option.toList_none, Nat.succ_ne_zero, false_implies, true_implies, kx_l0, kd_sI, kd_sR, kd_sA, kd_sL, fI_sI_eq, fI_sI_ne, fR_sI, aI_sI, mL_sI, ln_sI, fR_sR_eq, fR_sR_ne, fI_sR, aI_sR, mL_sR, ln_sR, fI_sA, fR_sA, mL_sA, ln_sA, fI_sL, fR_sL, aI_sL, ln_sL, lo_X9_ofCrop_0, lo_X9_ofCrop_1, lo_X9_ofCrop_2, lo_X9_ofCrop_5, lo_X9_ofCrop_6, lo_X9_ofCrop_7, lo_X9_ofCrop_8, lo_X9_ofCrop_9, lo_X9_ofCrop_12, lo_X9_ofCrop_15, lo_X9_ofCrop_26, lo_X9_ofCrop_27, lo_X9_ofCrop_28, lo_X9_ofCrop_31, f2_X9_cropAt, f2_X9_isWithin, f2_X3_numberOf, h1, h2, h3, h4, h5, h6, h7, hr, vIn, e8, e9, kx_10]
  · intro h; exact h.elim
theorem f2_X9_ofCrop_rc (E : kx_E) {av : List Value} {M : kx_M} (h : (f2_X9_ofCrop E av M).1) : ∃ (a : Nat) (as : List Value), av = .ref a :: as ∧ kd M a = 11 := by
  unfold f2_X9_ofCrop at h
  split at h
  · exact ⟨_, _, rfl, h.1.1⟩
  · exact h.elim
set_option maxRecDepth 8000 in
theorem f2_X9_ofLot_ok (E : kx_E) {av : List Value} {M : kx_M} (h : (f2_X9_ofLot E av M).1) : c2t_X9_ofLot E av M 0 0 (fun v M1 => v.toList = (f2_X9_ofLot E av M).2.1 ∧ M1 = (f2_X9_ofLot E av M).2.2) := by
  revert h
  unfold f2_X9_ofLot
  split
  · rename_i m i w
    intro h
    obtain ⟨⟨h1, t, x, h2, h3, h4, h5, h6, h7⟩, h8, h9⟩ := h
    have hr : rf M 202 m = t := by unfold rf; rw [h2]; rfl
    have he : el M 202 m i = x := by unfold el; rw [hr, h6]; rfl
    rw [he]
    have e8 : (w < 0) = False := eq_false (Int32.not_lt.mpr h8)
    have e9 : (9 < w) = False := eq_false (Int32.not_lt.mpr h9)
    refine en_X9_ofLot E (Nat.le_of_ble_eq_true rfl) (fun G hG => kx_run_ok hG (kx_in []) 60 _ _ _ _ _ _ ?_)
    simp only [kx_run_s, kx_run_z, kx_in, kx_beq, decide_true, decide_false, cond_true, cond_false, t_push, t_il, t_ll, t_al, t_is, t_ls, t_as, t_inc, t_bin, t_dv, t_lbin, t_lcmp, t_itl, t_dup, t_pop, t_dupx, t_go, t_gk, cutL, t_if, t_ic, t_nul, t_acmp, t_gI, t_gR, t_pI, t_pZ, t_pR, t_new, t_nwa, t_ial, t_ias, t_aln, t_cst, t_sln, t_sld, t_iret, t_zret, t_lret, t_aret, t_vret, t_no, t_call, t_fun, t_sw, sw_to0, t_oin, t_mm, t_qal, t_qas, t_qln, t_nwq, t_gcl, t_acp, lk, up1, cl1, up2, cl2, kx_c2, lv_args, kx_sum, kx_isr_r, kx_isr_n, kx_isr_v, kx_ex_r, kx_ex_n, kx_ex_v, kx_ex2_r, kx_ex2_n, kx_ex2_v, va_rf_s, va_rf_n, Value.ref.injEq, reduceCtorEq, exists_eq_left', exists_eq_left, exists_eq', exists_eq, true_and, and_true, false_and, and_false, List.length_cons, List.length_nil, List.take_succ_cons, List.take_zero, List.drop_succ_cons, List.drop_zero, List.reverse_cons, List.reverse_nil, List.nil_append, List.cons_append, List.append_nil, List.getElem?_cons_zero, List.getElem?_cons_succ, List.map_cons, List.map_nil, List.sum_cons, List.sum_nil, kx_cat_i, kx_cat_r, kx_cat_n, kx_cat_l, kx_cat_v, Nat.reduceAdd, Nat.reduceSub, Nat.reduceEqDiff, Nat.reduceLeDiff, Nat.reduceMul, Nat.reduceLT, Nat.add_zero, Nat.zero_add, Nat.sub_zero, Nat.sub_self, Nat.le_refl, Nat.zero_le, ↓reduceIte, not_true_eq_false, not_false_eq_true, or_true, true_or, or_false, false_or, Option.some.injEq, ne_eq, implies_true, forall_const, forall_eq', forall_eq, and_self, or_self, Bool.or_true, Bool.or_false, Bool.true_or, Bool.false_or, Bool.and_true, Bool.and_false, Bool.true_and, Bool.false_and, Option.toList_some, Option.toList_none, Nat.succ_ne_zero, false_implies, true_implies, kx_l0, kd_sI, kd_sR, kd_sA, kd_sL, fI_sI_eq, fI_sI_ne, fR_sI, aI_sI, mL_sI, ln_sI, fR_sR_eq, fR_sR_ne, fI_sR, aI_sR, mL_sR, ln_sR, fI_sA, fR_sA, mL_sA, ln_sA, fI_sL, fR_sL, aI_sL, ln_sL, lo_X9_ofLot_0, lo_X9_ofLot_1, lo_X9_ofLot_2, lo_X9_ofLot_5, lo_X9_ofLot_6, lo_X9_ofLot_7, lo_X9_ofLot_8, lo_X9_ofLot_10, lo_X9_ofLot_13, lo_X9_ofLot_16, lo_X9_ofLot_27, lo_X9_ofLot_28, lo_X9_ofLot_29, lo_X9_ofLot_32, f2_X9_lotAt, f2_X9_isWithin, f2_X5_numberOf, h1, h2, h3, h4, h5, h6, h7, hr, vIn, e8, e9, kx_10]
  · intro h; exact h.elim
theorem f2_X9_ofLot_rc (E : kx_E) {av : List Value} {M : kx_M} (h : (f2_X9_ofLot E av M).1) : ∃ (a : Nat) (as : List Value), av = .ref a :: as ∧ kd M a = 11 := by
  unfold f2_X9_ofLot at h
  split at h
  · exact ⟨_, _, rfl, h.1.1⟩
  · exact h.elim
set_option maxRecDepth 8000 in
theorem f2_X9_ofGrower_ok (E : kx_E) {av : List Value} {M : kx_M} (h : (f2_X9_ofGrower E av M).1) : c2t_X9_ofGrower E av M 0 0 (fun v M1 => v.toList = (f2_X9_ofGrower E av M).2.1 ∧ M1 = (f2_X9_ofGrower E av M).2.2) := by
  revert h
  unfold f2_X9_ofGrower
  split
  · rename_i m i w
    intro h
    obtain ⟨⟨h1, t, x, h2, h3, h4, h5, h6, h7⟩, h8, h9, ⟨q, h10, h11⟩⟩ := h
    have hr : rf M 200 m = t := by unfold rf; rw [h2]; rfl
    have he : el M 200 m i = x := by unfold el; rw [hr, h6]; rfl
    rw [he] at h10
    rw [he]
    have e8 : (w < 0) = False := eq_false (Int32.not_lt.mpr h8)
    have e9 : (4 < w) = False := eq_false (Int32.not_lt.mpr h9)
    refine en_X9_ofGrower E (Nat.le_of_ble_eq_true rfl) (fun G hG => kx_run_ok hG (kx_in []) 60 _ _ _ _ _ _ ?_)
    simp only [kx_run_s, kx_run_z, kx_in, kx_beq, decide_true, decide_false, cond_true, cond_false, t_push, t_il, t_ll, t_al, t_is, t_ls, t_as, t_inc, t_bin, t_dv, t_lbin, t_lcmp, t_itl, t_dup, t_pop, t_dupx, t_go, t_gk, cutL, t_if, t_ic, t_nul, t_acmp, t_gI, t_gR, t_pI, t_pZ, t_pR, t_new, t_nwa, t_ial, t_ias, t_aln, t_cst, t_sln, t_sld, t_iret, t_zret, t_lret, t_aret, t_vret, t_no, t_call, t_fun, t_sw, sw_to0, t_oin, t_mm, t_qal, t_qas, t_qln, t_nwq, t_gcl, t_acp, lk, up1, cl1, up2, cl2, kx_c2, lv_args, kx_sum, kx_isr_r, kx_isr_n, kx_isr_v, kx_ex_r, kx_ex_n, kx_ex_v, kx_ex2_r, kx_ex2_n, kx_ex2_v, va_rf_s, va_rf_n, Value.ref.injEq, reduceCtorEq, exists_eq_left', exists_eq_left, exists_eq', exists_eq, true_and, and_true, false_and, and_false, List.length_cons, List.length_nil, List.take_succ_cons, List.take_zero, List.drop_succ_cons, List.drop_zero, List.reverse_cons, List.reverse_nil, List.nil_append, List.cons_append, List.append_nil, List.getElem?_cons_zero, List.getElem?_cons_succ, List.map_cons, List.map_nil, List.sum_cons, List.sum_nil, kx_cat_i, kx_cat_r, kx_cat_n, kx_cat_l, kx_cat_v, Nat.reduceAdd, Nat.reduceSub, Nat.reduceEqDiff, Nat.reduceLeDiff, Nat.reduceMul, Nat.reduceLT, Nat.add_zero, Nat.zero_add, Nat.sub_zero, Nat.sub_self, Nat.le_refl, Nat.zero_le, ↓reduceIte, not_true_eq_false, not_false_eq_true, or_true, true_or, or_false, false_or, Option.some.injEq, ne_eq, implies_true, forall_const, forall_eq', forall_eq, and_self, or_self, Bool.or_true, Bool.or_false, Bool.true_or, Bool.false_or, Bool.and_true, Bool.and_false, Bool.true_and, Bool.false_and, Option.toList_some, Option.toList_none, Nat.succ_ne_zero, false_implies, true_implies, kx_l0, kd_sI, kd_sR, kd_sA, kd_sL, fI_sI_eq, fI_sI_ne, fR_sI, aI_sI, mL_sI, ln_sI, fR_sR_eq, fR_sR_ne, fI_sR, aI_sR, mL_sR, ln_sR, fI_sA, fR_sA, mL_sA, ln_sA, fI_sL, fR_sL, aI_sL, ln_sL, lo_X9_ofGrower_0, lo_X9_ofGrower_1, lo_X9_ofGrower_2, lo_X9_ofGrower_5, lo_X9_ofGrower_6, lo_X9_ofGrower_7, lo_X9_ofGrower_8, lo_X9_ofGrower_9, lo_X9_ofGrower_12, lo_X9_ofGrower_15, lo_X9_ofGrower_26, lo_X9_ofGrower_27, lo_X9_ofGrower_28, lo_X9_ofGrower_31, f2_X9_growerAt, f2_X9_isWithin, f2_X4_numberOf, h1, h2, h3, h4, h5, h6, h7, hr, vIn, e8, e9, kx_10, h10, h11]
  · intro h; exact h.elim
theorem f2_X9_ofGrower_rc (E : kx_E) {av : List Value} {M : kx_M} (h : (f2_X9_ofGrower E av M).1) : ∃ (a : Nat) (as : List Value), av = .ref a :: as ∧ kd M a = 11 := by
  unfold f2_X9_ofGrower at h
  split at h
  · exact ⟨_, _, rfl, h.1.1⟩
  · exact h.elim
set_option maxRecDepth 8000 in
theorem f2_X9_ofBuyer_ok (E : kx_E) {av : List Value} {M : kx_M} (h : (f2_X9_ofBuyer E av M).1) : c2t_X9_ofBuyer E av M 0 0 (fun v M1 => v.toList = (f2_X9_ofBuyer E av M).2.1 ∧ M1 = (f2_X9_ofBuyer E av M).2.2) := by
  revert h
  unfold f2_X9_ofBuyer
  split
  · rename_i m i w
    intro h
    obtain ⟨⟨h1, t, x, h2, h3, h4, h5, h6, h7⟩, h8, h9, ⟨q, h10, h11⟩⟩ := h
    have hr : rf M 204 m = t := by unfold rf; rw [h2]; rfl
    have he : el M 204 m i = x := by unfold el; rw [hr, h6]; rfl
    rw [he] at h10
    rw [he]
    have e8 : (w < 0) = False := eq_false (Int32.not_lt.mpr h8)
    have e9 : (8 < w) = False := eq_false (Int32.not_lt.mpr h9)
    refine en_X9_ofBuyer E (Nat.le_of_ble_eq_true rfl) (fun G hG => kx_run_ok hG (kx_in []) 60 _ _ _ _ _ _ ?_)
    simp only [kx_run_s, kx_run_z, kx_in, kx_beq, decide_true, decide_false, cond_true, cond_false, t_push, t_il, t_ll, t_al, t_is, t_ls, t_as, t_inc, t_bin, t_dv, t_lbin, t_lcmp, t_itl, t_dup, t_pop, t_dupx, t_go, t_gk, cutL, t_if, t_ic, t_nul, t_acmp, t_gI, t_gR, t_pI, t_pZ, t_pR, t_new, t_nwa, t_ial, t_ias, t_aln, t_cst, t_sln, t_sld, t_iret, t_zret, t_lret, t_aret, t_vret, t_no, t_call, t_fun, t_sw, sw_to0, t_oin, t_mm, t_qal, t_qas, t_qln, t_nwq, t_gcl, t_acp, lk, up1, cl1, up2, cl2, kx_c2, lv_args, kx_sum, kx_isr_r, kx_isr_n, kx_isr_v, kx_ex_r, kx_ex_n, kx_ex_v, kx_ex2_r, kx_ex2_n, kx_ex2_v, va_rf_s, va_rf_n, Value.ref.injEq, reduceCtorEq, exists_eq_left', exists_eq_left, exists_eq', exists_eq, true_and, and_true, false_and, and_false, List.length_cons, List.length_nil, List.take_succ_cons, List.take_zero, List.drop_succ_cons, List.drop_zero, List.reverse_cons, List.reverse_nil, List.nil_append, List.cons_append, List.append_nil, List.getElem?_cons_zero, List.getElem?_cons_succ, List.map_cons, List.map_nil, List.sum_cons, List.sum_nil, kx_cat_i, kx_cat_r, kx_cat_n, kx_cat_l, kx_cat_v, Nat.reduceAdd, Nat.reduceSub, Nat.reduceEqDiff, Nat.reduceLeDiff, Nat.reduceMul, Nat.reduceLT, Nat.add_zero, Nat.zero_add, Nat.sub_zero, Nat.sub_self, Nat.le_refl, Nat.zero_le, ↓reduceIte, not_true_eq_false, not_false_eq_true, or_true, true_or, or_false, false_or, Option.some.injEq, ne_eq, implies_true, forall_const, forall_eq', forall_eq, and_self, or_self, Bool.or_true, Bool.or_false, Bool.true_or, Bool.false_or, Bool.and_true, Bool.and_false, Bool.true_and, Bool.false_and, Option.toList_some, Option.toList_none, Nat.succ_ne_zero, false_implies, true_implies, kx_l0, kd_sI, kd_sR, kd_sA, kd_sL, fI_sI_eq, fI_sI_ne, fR_sI, aI_sI, mL_sI, ln_sI, fR_sR_eq, fR_sR_ne, fI_sR, aI_sR, mL_sR, ln_sR, fI_sA, fR_sA, mL_sA, ln_sA, fI_sL, fR_sL, aI_sL, ln_sL, lo_X9_ofBuyer_0, lo_X9_ofBuyer_1, lo_X9_ofBuyer_2, lo_X9_ofBuyer_5, lo_X9_ofBuyer_6, lo_X9_ofBuyer_7, lo_X9_ofBuyer_8, lo_X9_ofBuyer_10, lo_X9_ofBuyer_13, lo_X9_ofBuyer_16, lo_X9_ofBuyer_27, lo_X9_ofBuyer_28, lo_X9_ofBuyer_29, lo_X9_ofBuyer_32, f2_X9_buyerAt, f2_X9_isWithin, f2_X0_numberOf, h1, h2, h3, h4, h5, h6, h7, hr, vIn, e8, e9, kx_10, h10, h11]
  · intro h; exact h.elim
theorem f2_X9_ofBuyer_rc (E : kx_E) {av : List Value} {M : kx_M} (h : (f2_X9_ofBuyer E av M).1) : ∃ (a : Nat) (as : List Value), av = .ref a :: as ∧ kd M a = 11 := by
  unfold f2_X9_ofBuyer at h
  split at h
  · exact ⟨_, _, rfl, h.1.1⟩
  · exact h.elim
set_option maxRecDepth 8000 in
theorem f2_X9_readyIn_ok (E : kx_E) {av : List Value} {M : kx_M} (h : (f2_X9_readyIn E av M).1) : c2t_X9_readyIn E av M 0 0 (fun v M1 => v.toList = (f2_X9_readyIn E av M).2.1 ∧ M1 = (f2_X9_readyIn E av M).2.2) := by
  revert h
  unfold f2_X9_readyIn
  split
  · rename_i m i
    intro h
    obtain ⟨⟨h1, t, x, h2, h3, h4, h5, h6, h7⟩, g, h8, h9⟩ := h
    have hr : rf M 201 m = t := by unfold rf; rw [h2]; rfl
    have he : el M 201 m i = x := by unfold el; rw [hr, h6]; rfl
    rw [he] at h8 ⊢
    refine en_X9_readyIn E (Nat.le_of_ble_eq_true rfl) (fun G hG => kx_run_ok hG (kx_in []) 60 _ _ _ _ _ _ ?_)
    simp only [kx_run_s, kx_run_z, kx_in, kx_beq, decide_true, decide_false, cond_true, cond_false, t_push, t_il, t_ll, t_al, t_is, t_ls, t_as, t_inc, t_bin, t_dv, t_lbin, t_lcmp, t_itl, t_dup, t_pop, t_dupx, t_go, t_gk, cutL, t_if, t_ic, t_nul, t_acmp, t_gI, t_gR, t_pI, t_pZ, t_pR, t_new, t_nwa, t_ial, t_ias, t_aln, t_cst, t_sln, t_sld, t_iret, t_zret, t_lret, t_aret, t_vret, t_no, t_call, t_fun, t_sw, sw_to0, t_oin, t_mm, t_qal, t_qas, t_qln, t_nwq, t_gcl, t_acp, lk, up1, cl1, up2, cl2, kx_c2, lv_args, kx_sum, kx_isr_r, kx_isr_n, kx_isr_v, kx_ex_r, kx_ex_n, kx_ex_v, kx_ex2_r, kx_ex2_n, kx_ex2_v, va_rf_s, va_rf_n, Value.ref.injEq, reduceCtorEq, exists_eq_left', exists_eq_left, exists_eq', exists_eq, true_and, and_true, false_and, and_false, List.length_cons, List.length_nil, List.take_succ_cons, List.take_zero, List.drop_succ_cons, List.drop_zero, List.reverse_cons, List.reverse_nil, List.nil_append, List.cons_append, List.append_nil, List.getElem?_cons_zero, List.getElem?_cons_succ, List.map_cons, List.map_nil, List.sum_cons, List.sum_nil, kx_cat_i, kx_cat_r, kx_cat_n, kx_cat_l, kx_cat_v, Nat.reduceAdd, Nat.reduceSub, Nat.reduceEqDiff, Nat.reduceLeDiff, Nat.reduceMul, Nat.reduceLT, Nat.add_zero, Nat.zero_add, Nat.sub_zero, Nat.sub_self, Nat.le_refl, Nat.zero_le, ↓reduceIte, not_true_eq_false, not_false_eq_true, or_true, true_or, or_false, false_or, Option.some.injEq, ne_eq, implies_true, forall_const, forall_eq', forall_eq, and_self, or_self, Bool.or_true, Bool.or_false, Bool.true_or, Bool.false_or, Bool.and_true, Bool.and_false, Bool.true_and, Bool.false_and, Option.toList_some, Option.toList_none, Nat.succ_ne_zero, false_implies, true_implies, kx_l0, kd_sI, kd_sR, kd_sA, kd_sL, fI_sI_eq, fI_sI_ne, fR_sI, aI_sI, mL_sI, ln_sI, fR_sR_eq, fR_sR_ne, fI_sR, aI_sR, mL_sR, ln_sR, fI_sA, fR_sA, mL_sA, ln_sA, fI_sL, fR_sL, aI_sL, ln_sL, lo_X9_readyIn_0, lo_X9_readyIn_1, lo_X9_readyIn_2, lo_X9_readyIn_3, lo_X9_readyIn_6, lo_X9_readyIn_9, f2_X9_cropAt, f2_X9_hoursUntilReady, h1, h2, h3, h4, h5, h6, h7, hr, h8, h9]
  · intro h; exact h.elim
theorem f2_X9_readyIn_rc (E : kx_E) {av : List Value} {M : kx_M} (h : (f2_X9_readyIn E av M).1) : ∃ (a : Nat) (as : List Value), av = .ref a :: as ∧ kd M a = 11 := by
  unfold f2_X9_readyIn at h
  split at h
  · exact ⟨_, _, rfl, h.1.1⟩
  · exact h.elim
set_option maxRecDepth 8000 in
theorem f2_X9_row_ok (E : kx_E) {av : List Value} {M : kx_M} (h : (f2_X9_row E av M).1) : c2t_X9_row E av M 0 0 (fun v M1 => v.toList = (f2_X9_row E av M).2.1 ∧ M1 = (f2_X9_row E av M).2.2) := by
  revert h
  unfold f2_X9_row
  split
  · rename_i m i
    intro h
    obtain ⟨h0, h1, hh⟩ := h
    have e0 : (i < 0) = False := eq_false (Int32.not_lt.mpr h0)
    have hh2 := eq_true hh
    refine en_X9_row E (Nat.le_of_ble_eq_true rfl) (fun G hG => kx_run_ok hG (kx_in []) 60 _ _ _ _ _ _ ?_)
    simp only [kx_run_s, kx_run_z, kx_in, kx_beq, decide_true, decide_false, cond_true, cond_false, t_push, t_il, t_ll, t_al, t_is, t_ls, t_as, t_inc, t_bin, t_dv, t_lbin, t_lcmp, t_itl, t_dup, t_pop, t_dupx, t_go, t_gk, cutL, t_if, t_ic, t_nul, t_acmp, t_gI, t_gR, t_pI, t_pZ, t_pR, t_new, t_nwa, t_ial, t_ias, t_aln, t_cst, t_sln, t_sld, t_iret, t_zret, t_lret, t_aret, t_vret, t_no, t_call, t_fun, t_sw, sw_to0, t_oin, t_mm, t_qal, t_qas, t_qln, t_nwq, t_gcl, t_acp, lk, up1, cl1, up2, cl2, kx_c2, lv_args, kx_sum, kx_isr_r, kx_isr_n, kx_isr_v, kx_ex_r, kx_ex_n, kx_ex_v, kx_ex2_r, kx_ex2_n, kx_ex2_v, va_rf_s, va_rf_n, Value.ref.injEq, reduceCtorEq, exists_eq_left', exists_eq_left, exists_eq', exists_eq, true_and, and_true, false_and, and_false, List.length_cons, List.length_nil, List.take_succ_cons, List.take_zero, List.drop_succ_cons, List.drop_zero, List.reverse_cons, List.reverse_nil, List.nil_append, List.cons_append, List.append_nil, List.getElem?_cons_zero, List.getElem?_cons_succ, List.map_cons, List.map_nil, List.sum_cons, List.sum_nil, kx_cat_i, kx_cat_r, kx_cat_n, kx_cat_l, kx_cat_v, Nat.reduceAdd, Nat.reduceSub, Nat.reduceEqDiff, Nat.reduceLeDiff, Nat.reduceMul, Nat.reduceLT, Nat.add_zero, Nat.zero_add, Nat.sub_zero, Nat.sub_self, Nat.le_refl, Nat.zero_le, ↓reduceIte, not_true_eq_false, not_false_eq_true, or_true, true_or, or_false, false_or, Option.some.injEq, ne_eq, implies_true, forall_const, forall_eq', forall_eq, and_self, or_self, Bool.or_true, Bool.or_false, Bool.true_or, Bool.false_or, Bool.and_true, Bool.and_false, Bool.true_and, Bool.false_and, Option.toList_some, Option.toList_none, Nat.succ_ne_zero, false_implies, true_implies, kx_l0, kd_sI, kd_sR, kd_sA, kd_sL, fI_sI_eq, fI_sI_ne, fR_sI, aI_sI, mL_sI, ln_sI, fR_sR_eq, fR_sR_ne, fI_sR, aI_sR, mL_sR, ln_sR, fI_sA, fR_sA, mL_sA, ln_sA, fI_sL, fR_sL, aI_sL, ln_sL, lo_X9_row_0, lo_X9_row_1, lo_X9_row_4, lo_X9_row_15, lo_X9_row_16, lo_X9_row_17, lo_X9_row_20, f2_X9_lotInRow, h1, e0, hh2]
    exact fun z => z h0
  · intro h; exact h.elim
theorem f2_X9_row_rc (E : kx_E) {av : List Value} {M : kx_M} (h : (f2_X9_row E av M).1) : ∃ (a : Nat) (as : List Value), av = .ref a :: as ∧ kd M a = 11 := by
  unfold f2_X9_row at h
  split at h
  · exact ⟨_, _, rfl, h.2.1⟩
  · exact h.elim
