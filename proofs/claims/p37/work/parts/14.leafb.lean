set_option maxRecDepth 8000 in
theorem f2_X2_isAhead_ok (E : kx_E) {av : List Value} {M : kx_M} (h : (f2_X2_isAhead E av M).1) : c2t_X2_isAhead E av M 0 0 (fun v M1 => v.toList = (f2_X2_isAhead E av M).2.1 ∧ M1 = (f2_X2_isAhead E av M).2.2) := by
  revert h
  unfold f2_X2_isAhead
  split
  · intro h
    obtain ⟨h1, h2, ⟨b, h3, h4⟩, h5, c, h6, h7⟩ := h
    refine en_X2_isAhead E (Nat.le_of_ble_eq_true rfl) (fun G hG => kx_run_ok hG (kx_in []) 40 _ _ _ _ _ _ ?_)
    simp only [kx_run_s, kx_run_z, kx_in, kx_beq, decide_true, decide_false, cond_true, cond_false, t_push, t_il, t_ll, t_al, t_is, t_ls, t_as, t_inc, t_bin, t_dv, t_lbin, t_lcmp, t_itl, t_dup, t_pop, t_dupx, t_go, t_gk, cutL, t_if, t_ic, t_nul, t_acmp, t_gI, t_gR, t_pI, t_pZ, t_pR, t_new, t_nwa, t_ial, t_ias, t_aln, t_cst, t_sln, t_sld, t_iret, t_zret, t_lret, t_aret, t_vret, t_no, t_call, t_fun, t_sw, sw_to0, t_oin, t_mm, t_qal, t_qas, t_qln, t_nwq, t_gcl, t_acp, lk, up1, cl1, up2, cl2, kx_c2, lv_args, kx_sum, kx_isr_r, kx_isr_n, kx_isr_v, kx_ex_r, kx_ex_n, kx_ex_v, kx_ex2_r, kx_ex2_n, kx_ex2_v, va_rf_s, va_rf_n, Value.ref.injEq, reduceCtorEq, exists_eq_left', exists_eq_left, exists_eq', exists_eq, true_and, and_true, false_and, and_false, List.length_cons, List.length_nil, List.take_succ_cons, List.take_zero, List.drop_succ_cons, List.drop_zero, List.reverse_cons, List.reverse_nil, List.nil_append, List.cons_append, List.append_nil, List.getElem?_cons_zero, List.getElem?_cons_succ, List.map_cons, List.map_nil, List.sum_cons, List.sum_nil, kx_cat_i, kx_cat_r, kx_cat_n, kx_cat_l, kx_cat_v, Nat.reduceAdd, Nat.reduceSub, Nat.reduceEqDiff, Nat.reduceLeDiff, Nat.reduceMul, Nat.reduceLT, Nat.add_zero, Nat.zero_add, Nat.sub_zero, Nat.sub_self, Nat.le_refl, Nat.zero_le, ↓reduceIte, not_true_eq_false, not_false_eq_true, or_true, true_or, or_false, false_or, Option.some.injEq, ne_eq, implies_true, forall_const, forall_eq', forall_eq, and_self, or_self, Bool.or_true, Bool.or_false, Bool.true_or, Bool.false_or, Bool.and_true, Bool.and_false, Bool.true_and, Bool.false_and, Option.toList_some, Option.toList_none, Nat.succ_ne_zero, false_implies, true_implies, kx_l0, kd_sI, kd_sR, kd_sA, kd_sL, fI_sI_eq, fI_sI_ne, fR_sI, aI_sI, mL_sI, ln_sI, fR_sR_eq, fR_sR_ne, fI_sR, aI_sR, mL_sR, ln_sR, fI_sA, fR_sA, mL_sA, ln_sA, fI_sL, fR_sL, aI_sL, ln_sL, lo_X2_isAhead_0, lo_X2_isAhead_1, lo_X2_isAhead_2, lo_X2_isAhead_5, lo_X2_isAhead_6, lo_X2_isAhead_7, lo_X2_isAhead_8, lo_X2_isAhead_11, lo_X2_isAhead_13, lo_X2_isAhead_14, lo_X2_isAhead_16, lo_X2_isAhead_19, lo_X2_isAhead_20, lo_X2_isAhead_22, lo_X2_isAhead_25, lo_X2_isAhead_26, lo_X2_isAhead_29, lo_X2_isAhead_32, lo_X2_isAhead_33, lo_X2_isAhead_36, lo_X2_isAhead_39, lo_X2_isAhead_42, lo_X2_isAhead_43, lo_X2_isAhead_46, lo_X2_isAhead_47, f2_X2_stampOf, h1, h2, h3, h4, h5, h6, h7, vAhead, rf, Option.getD_some]
    simp +contextual [-Int32.not_lt, -Int32.not_le, bcv, kx_c0, kx_c1, kx_c2']
    exact fun _ _ => ⟨fun z => Int32.not_lt.mpr z, fun z => Int32.not_le.mp z⟩
  · intro h; exact h.elim
set_option maxRecDepth 8000 in
theorem f2_X2_take_ok (E : kx_E) {av : List Value} {M : kx_M} (h : (f2_X2_take E av M).1) : c2t_X2_take E av M 0 0 (fun v M1 => v.toList = (f2_X2_take E av M).2.1 ∧ M1 = (f2_X2_take E av M).2.2) := by
  revert h
  unfold f2_X2_take
  split
  · intro h
    obtain ⟨h1, h2, b, h3, h4⟩ := h
    refine en_X2_take E (Nat.le_of_ble_eq_true rfl) (fun G hG => kx_run_ok hG (kx_in []) 60 _ _ _ _ _ _ ?_)
    simp only [kx_run_s, kx_run_z, kx_in, kx_beq, decide_true, decide_false, cond_true, cond_false, t_push, t_il, t_ll, t_al, t_is, t_ls, t_as, t_inc, t_bin, t_dv, t_lbin, t_lcmp, t_itl, t_dup, t_pop, t_dupx, t_go, t_gk, cutL, t_if, t_ic, t_nul, t_acmp, t_gI, t_gR, t_pI, t_pZ, t_pR, t_new, t_nwa, t_ial, t_ias, t_aln, t_cst, t_sln, t_sld, t_iret, t_zret, t_lret, t_aret, t_vret, t_no, t_call, t_fun, t_sw, sw_to0, t_oin, t_mm, t_qal, t_qas, t_qln, t_nwq, t_gcl, t_acp, lk, up1, cl1, up2, cl2, kx_c2, lv_args, kx_sum, kx_isr_r, kx_isr_n, kx_isr_v, kx_ex_r, kx_ex_n, kx_ex_v, kx_ex2_r, kx_ex2_n, kx_ex2_v, va_rf_s, va_rf_n, Value.ref.injEq, reduceCtorEq, exists_eq_left', exists_eq_left, exists_eq', exists_eq, true_and, and_true, false_and, and_false, List.length_cons, List.length_nil, List.take_succ_cons, List.take_zero, List.drop_succ_cons, List.drop_zero, List.reverse_cons, List.reverse_nil, List.nil_append, List.cons_append, List.append_nil, List.getElem?_cons_zero, List.getElem?_cons_succ, List.map_cons, List.map_nil, List.sum_cons, List.sum_nil, kx_cat_i, kx_cat_r, kx_cat_n, kx_cat_l, kx_cat_v, Nat.reduceAdd, Nat.reduceSub, Nat.reduceEqDiff, Nat.reduceLeDiff, Nat.reduceMul, Nat.reduceLT, Nat.add_zero, Nat.zero_add, Nat.sub_zero, Nat.sub_self, Nat.le_refl, Nat.zero_le, ↓reduceIte, not_true_eq_false, not_false_eq_true, or_true, true_or, or_false, false_or, Option.some.injEq, ne_eq, implies_true, forall_const, forall_eq', forall_eq, and_self, or_self, Bool.or_true, Bool.or_false, Bool.true_or, Bool.false_or, Bool.and_true, Bool.and_false, Bool.true_and, Bool.false_and, Option.toList_some, Option.toList_none, Nat.succ_ne_zero, false_implies, true_implies, kx_l0, kd_sI, kd_sR, kd_sA, kd_sL, fI_sI_eq, fI_sI_ne, fR_sI, aI_sI, mL_sI, ln_sI, fR_sR_eq, fR_sR_ne, fI_sR, aI_sR, mL_sR, ln_sR, fI_sA, fR_sA, mL_sA, ln_sA, fI_sL, fR_sL, aI_sL, ln_sL, lo_X2_take_0, lo_X2_take_1, lo_X2_take_4, lo_X2_take_5, lo_X2_take_8, lo_X2_take_11, lo_X2_take_13, lo_X2_take_14, lo_X2_take_15, lo_X2_take_18, lo_X2_take_19, lo_X2_take_20, lo_X2_take_23, lo_X2_take_24, lo_X2_take_25, lo_X2_take_28, lo_X2_take_29, lo_X2_take_30, lo_X2_take_33, lo_X2_take_34, lo_X2_take_37, lo_X2_take_38, lo_X2_take_41, lo_X2_take_42, lo_X2_take_43, lo_X2_take_44, lo_X2_take_45, lo_X2_take_47, lo_X2_take_48, lo_X2_take_49, lo_X2_take_50, lo_X2_take_53, lo_X2_take_54, lo_X2_take_55, lo_X2_take_58, lo_X2_take_59, lo_X2_take_60, lo_X2_take_63, lo_X2_take_64, lo_X2_take_65, lo_X2_take_68, lo_X2_take_70, lo_X2_take_71, lo_X2_take_74, lo_X2_take_75, lo_X2_take_77, lo_X2_take_78, lo_X2_take_80, lo_X2_take_81, lo_X2_take_84, lo_X2_take_87, f2_X9_bucketsFor, h1, h2, h3, h4, eTake, rf, Option.getD_some, vMin]

  · intro h; exact h.elim
set_option maxRecDepth 8000 in
theorem f2_X3_growBy_ok (E : kx_E) {av : List Value} {M : kx_M} (h : (f2_X3_growBy E av M).1) : c2t_X3_growBy E av M 0 0 (fun v M1 => v.toList = (f2_X3_growBy E av M).2.1 ∧ M1 = (f2_X3_growBy E av M).2.2) := by
  revert h
  unfold f2_X3_growBy
  split
  · intro h
    have h1 : kd M _ = 5 := h
    refine en_X3_growBy E (Nat.le_of_ble_eq_true rfl) (fun G hG => kx_run_ok hG (kx_in []) 60 _ _ _ _ _ _ ?_)
    simp only [kx_run_s, kx_run_z, kx_in, kx_beq, decide_true, decide_false, cond_true, cond_false, t_push, t_il, t_ll, t_al, t_is, t_ls, t_as, t_inc, t_bin, t_dv, t_lbin, t_lcmp, t_itl, t_dup, t_pop, t_dupx, t_go, t_gk, cutL, t_if, t_ic, t_nul, t_acmp, t_gI, t_gR, t_pI, t_pZ, t_pR, t_new, t_nwa, t_ial, t_ias, t_aln, t_cst, t_sln, t_sld, t_iret, t_zret, t_lret, t_aret, t_vret, t_no, t_call, t_fun, t_sw, sw_to0, t_oin, t_mm, t_qal, t_qas, t_qln, t_nwq, t_gcl, t_acp, lk, up1, cl1, up2, cl2, kx_c2, lv_args, kx_sum, kx_isr_r, kx_isr_n, kx_isr_v, kx_ex_r, kx_ex_n, kx_ex_v, kx_ex2_r, kx_ex2_n, kx_ex2_v, va_rf_s, va_rf_n, Value.ref.injEq, reduceCtorEq, exists_eq_left', exists_eq_left, exists_eq', exists_eq, true_and, and_true, false_and, and_false, List.length_cons, List.length_nil, List.take_succ_cons, List.take_zero, List.drop_succ_cons, List.drop_zero, List.reverse_cons, List.reverse_nil, List.nil_append, List.cons_append, List.append_nil, List.getElem?_cons_zero, List.getElem?_cons_succ, List.map_cons, List.map_nil, List.sum_cons, List.sum_nil, kx_cat_i, kx_cat_r, kx_cat_n, kx_cat_l, kx_cat_v, Nat.reduceAdd, Nat.reduceSub, Nat.reduceEqDiff, Nat.reduceLeDiff, Nat.reduceMul, Nat.reduceLT, Nat.add_zero, Nat.zero_add, Nat.sub_zero, Nat.sub_self, Nat.le_refl, Nat.zero_le, ↓reduceIte, not_true_eq_false, not_false_eq_true, or_true, true_or, or_false, false_or, Option.some.injEq, ne_eq, implies_true, forall_const, forall_eq', forall_eq, and_self, or_self, Bool.or_true, Bool.or_false, Bool.true_or, Bool.false_or, Bool.and_true, Bool.and_false, Bool.true_and, Bool.false_and, Option.toList_some, Option.toList_none, Nat.succ_ne_zero, false_implies, true_implies, kx_l0, kd_sI, kd_sR, kd_sA, kd_sL, fI_sI_eq, fI_sI_ne, fR_sI, aI_sI, mL_sI, ln_sI, fR_sR_eq, fR_sR_ne, fI_sR, aI_sR, mL_sR, ln_sR, fI_sA, fR_sA, mL_sA, ln_sA, fI_sL, fR_sL, aI_sL, ln_sL, lo_X3_growBy_0, lo_X3_growBy_1, lo_X3_growBy_2, lo_X3_growBy_5, lo_X3_growBy_6, lo_X3_growBy_7, lo_X3_growBy_10, lo_X3_growBy_11, lo_X3_growBy_14, lo_X3_growBy_17, lo_X3_growBy_18, lo_X3_growBy_19, lo_X3_growBy_22, lo_X3_growBy_23, lo_X3_growBy_24, lo_X3_growBy_27, lo_X3_growBy_28, lo_X3_growBy_29, lo_X3_growBy_32, lo_X3_growBy_35, lo_X3_growBy_36, lo_X3_growBy_39, lo_X3_growBy_40, lo_X3_growBy_43, lo_X3_growBy_46, lo_X3_growBy_49, lo_X3_growBy_50, lo_X3_growBy_53, lo_X3_growBy_54, lo_X3_growBy_57, f2_X9_sumAsked, h1, eGrow]
    simp +contextual [-Int32.not_lt, -Int32.not_le]
  · intro h; exact h.elim
set_option maxRecDepth 8000 in
theorem f2_X5_init_ok (E : kx_E) {av : List Value} {M : kx_M} (h : (f2_X5_init E av M).1) : c2t_X5_init E av M 0 0 (fun v M1 => v.toList = (f2_X5_init E av M).2.1 ∧ M1 = (f2_X5_init E av M).2.2) := by
  revert h
  unfold f2_X5_init
  split
  · intro h
    obtain ⟨h1, h2, g, h3⟩ := h
    refine en_X5_init E (Nat.le_of_ble_eq_true rfl) (fun G hG => kx_run_ok hG (kx_in []) 90 _ _ _ _ _ _ ?_)
    simp only [kx_run_s, kx_run_z, kx_in, kx_beq, decide_true, decide_false, cond_true, cond_false, t_push, t_il, t_ll, t_al, t_is, t_ls, t_as, t_inc, t_bin, t_dv, t_lbin, t_lcmp, t_itl, t_dup, t_pop, t_dupx, t_go, t_gk, cutL, t_if, t_ic, t_nul, t_acmp, t_gI, t_gR, t_pI, t_pZ, t_pR, t_new, t_nwa, t_ial, t_ias, t_aln, t_cst, t_sln, t_sld, t_iret, t_zret, t_lret, t_aret, t_vret, t_no, t_call, t_fun, t_sw, sw_to0, t_oin, t_mm, t_qal, t_qas, t_qln, t_nwq, t_gcl, t_acp, lk, up1, cl1, up2, cl2, kx_c2, lv_args, kx_sum, kx_isr_r, kx_isr_n, kx_isr_v, kx_ex_r, kx_ex_n, kx_ex_v, kx_ex2_r, kx_ex2_n, kx_ex2_v, va_rf_s, va_rf_n, Value.ref.injEq, reduceCtorEq, exists_eq_left', exists_eq_left, exists_eq', exists_eq, true_and, and_true, false_and, and_false, List.length_cons, List.length_nil, List.take_succ_cons, List.take_zero, List.drop_succ_cons, List.drop_zero, List.reverse_cons, List.reverse_nil, List.nil_append, List.cons_append, List.append_nil, List.getElem?_cons_zero, List.getElem?_cons_succ, List.map_cons, List.map_nil, List.sum_cons, List.sum_nil, kx_cat_i, kx_cat_r, kx_cat_n, kx_cat_l, kx_cat_v, Nat.reduceAdd, Nat.reduceSub, Nat.reduceEqDiff, Nat.reduceLeDiff, Nat.reduceMul, Nat.reduceLT, Nat.add_zero, Nat.zero_add, Nat.sub_zero, Nat.sub_self, Nat.le_refl, Nat.zero_le, ↓reduceIte, not_true_eq_false, not_false_eq_true, or_true, true_or, or_false, false_or, Option.some.injEq, ne_eq, implies_true, forall_const, forall_eq', forall_eq, and_self, or_self, Bool.or_true, Bool.or_false, Bool.true_or, Bool.false_or, Bool.and_true, Bool.and_false, Bool.true_and, Bool.false_and, Option.toList_some, Option.toList_none, Nat.succ_ne_zero, false_implies, true_implies, kx_l0, kd_sI, kd_sR, kd_sA, kd_sL, fI_sI_eq, fI_sI_ne, fR_sI, aI_sI, mL_sI, ln_sI, fR_sR_eq, fR_sR_ne, fI_sR, aI_sR, mL_sR, ln_sR, fI_sA, fR_sA, mL_sA, ln_sA, fI_sL, fR_sL, aI_sL, ln_sL, lo_X5_init_0, lo_X5_init_1, lo_X5_init_4, lo_X5_init_5, lo_X5_init_6, lo_X5_init_9, lo_X5_init_10, lo_X5_init_11, lo_X5_init_14, lo_X5_init_15, lo_X5_init_16, lo_X5_init_19, lo_X5_init_20, lo_X5_init_21, lo_X5_init_24, lo_X5_init_25, lo_X5_init_26, lo_X5_init_29, lo_X5_init_30, lo_X5_init_31, lo_X5_init_34, lo_X5_init_37, lo_X5_init_38, lo_X5_init_39, lo_X5_init_42, lo_X5_init_45, lo_X5_init_46, lo_X5_init_47, lo_X5_init_50, lo_X5_init_53, lo_X5_init_54, lo_X5_init_55, lo_X5_init_58, lo_X5_init_60, lo_X5_init_63, lo_X5_init_64, lo_X5_init_67, lo_X5_init_68, lo_X5_init_71, lo_X5_init_73, lo_X5_init_76, lo_X5_init_77, lo_X5_init_80, lo_X5_init_81, lo_X5_init_84, lo_X5_init_85, lo_X5_init_86, lo_X5_init_89, lo_X5_init_90, lo_X5_init_91, lo_X5_init_92, lo_X5_init_95, lo_X5_init_98, lo_X5_init_99, lo_X5_init_100, lo_X5_init_103, lo_X5_init_104, lo_X5_init_105, lo_X5_init_108, lo_X5_init_111, lo_X5_init_112, lo_X5_init_114, lo_X5_init_117, f2_X9_freshLife, h1, h2, h3, eLot, rf, Option.getD_some, vGrade, vMax]
    refine ⟨fun z => ⟨fun y => ?_, fun y => ?_⟩, fun z => ?_⟩
    · rw [if_pos z, if_pos y]
    · rw [if_pos z, if_neg y]
    · rw [if_neg z]
  · intro h; exact h.elim
theorem f2_X2_isAhead_rc (E : kx_E) {av : List Value} {M : kx_M} (h : (f2_X2_isAhead E av M).1) : ∃ (a : Nat) (as : List Value), av = .ref a :: as ∧ kd M a = 4 := by
  unfold f2_X2_isAhead at h
  split at h
  · exact ⟨_, _, rfl, h.1⟩
  · exact h.elim
theorem f2_X2_take_rc (E : kx_E) {av : List Value} {M : kx_M} (h : (f2_X2_take E av M).1) : ∃ (a : Nat) (as : List Value), av = .ref a :: as ∧ kd M a = 4 := by
  unfold f2_X2_take at h
  split at h
  · exact ⟨_, _, rfl, h.1⟩
  · exact h.elim
theorem f2_X3_growBy_rc (E : kx_E) {av : List Value} {M : kx_M} (h : (f2_X3_growBy E av M).1) : ∃ (a : Nat) (as : List Value), av = .ref a :: as ∧ kd M a = 5 := by
  unfold f2_X3_growBy at h
  split at h
  · exact ⟨_, _, rfl, h⟩
  · exact h.elim
theorem f2_X5_init_rc (E : kx_E) {av : List Value} {M : kx_M} (h : (f2_X5_init E av M).1) : ∃ (a : Nat) (as : List Value), av = .ref a :: as ∧ kd M a = 7 := by
  unfold f2_X5_init at h
  split at h
  · exact ⟨_, _, rfl, h.1⟩
  · exact h.elim
