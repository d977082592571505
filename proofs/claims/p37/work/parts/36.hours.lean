theorem kd_eGrow (M : kx_M) (c : Nat) (x : Int32) : kd (eGrow M c x) = kd M := by unfold eGrow; split <;> simp only [kd_sI]
theorem mL_eGrow (M : kx_M) (c : Nat) (x : Int32) : mL (eGrow M c x) = mL M := by unfold eGrow; split <;> simp only [mL_sI]
theorem fR_eGrow (M : kx_M) (c : Nat) (x : Int32) : fR (eGrow M c x) = fR M := by unfold eGrow; split <;> simp only [fR_sI]
theorem aI_eGrow (M : kx_M) (c : Nat) (x : Int32) : aI (eGrow M c x) = aI M := by unfold eGrow; split <;> simp only [aI_sI]
theorem kd_eLose (M : kx_M) (c : Nat) : kd (eLose M c) = kd M := by unfold eLose; split <;> rfl
theorem mL_eLose (M : kx_M) (c : Nat) : mL (eLose M c) = mL M := by unfold eLose; split <;> rfl
theorem fR_eLose (M : kx_M) (c : Nat) : fR (eLose M c) = fR M := by unfold eLose; split <;> rfl
theorem aI_eLose (M : kx_M) (c : Nat) : aI (eLose M c) = aI M := by unfold eLose; split <;> rfl
set_option maxRecDepth 16000 in
theorem f2_X9_beginDay_ok (E : kx_E) {av : List Value} {M : kx_M} (h : (f2_X9_beginDay E av M).1) : c2t_X9_beginDay E av M 0 0 (fun v M1 => v.toList = (f2_X9_beginDay E av M).2.1 ∧ M1 = (f2_X9_beginDay E av M).2.2) := by
  revert h
  unfold f2_X9_beginDay
  split
  · rename_i m
    intro h
    obtain ⟨h1, t, h2, h3, h4, h5⟩ := h
    have hr : rf M 200 m = t := by unfold rf; rw [h2]; rfl
    rw [hr]
    refine en_X9_beginDay E (Nat.le_of_ble_eq_true rfl) (fun G hG => kx_run_ok hG (kx_in [2]) 60 _ _ _ _ _ _ ?_)
    simp only [kx_run_s, kx_run_z, kx_in, kx_beq, decide_true, decide_false, cond_true, cond_false, t_push, t_il, t_ll, t_al, t_is, t_ls, t_as, t_inc, t_bin, t_dv, t_lbin, t_lcmp, t_itl, t_dup, t_pop, t_dupx, t_go, t_gk, cutL, t_if, t_ic, t_nul, t_acmp, t_gI, t_gR, t_pI, t_pZ, t_pR, t_new, t_nwa, t_ial, t_ias, t_aln, t_cst, t_sln, t_sld, t_iret, t_zret, t_lret, t_aret, t_vret, t_no, t_call, t_fun, t_sw, sw_to0, t_oin, t_mm, t_qal, t_qas, t_qln, t_nwq, t_gcl, t_acp, lk, up1, cl1, up2, cl2, kx_c2, lv_args, kx_sum, kx_isr_r, kx_isr_n, kx_isr_v, kx_ex_r, kx_ex_n, kx_ex_v, kx_ex2_r, kx_ex2_n, kx_ex2_v, va_rf_s, va_rf_n, Value.ref.injEq, reduceCtorEq, exists_eq_left', exists_eq_left, exists_eq', exists_eq, true_and, and_true, false_and, and_false, List.length_cons, List.length_nil, List.take_succ_cons, List.take_zero, List.drop_succ_cons, List.drop_zero, List.reverse_cons, List.reverse_nil, List.nil_append, List.cons_append, List.append_nil, List.getElem?_cons_zero, List.getElem?_cons_succ, List.map_cons, List.map_nil, List.sum_cons, List.sum_nil, kx_cat_i, kx_cat_r, kx_cat_n, kx_cat_l, kx_cat_v, Nat.reduceAdd, Nat.reduceSub, Nat.reduceEqDiff, Nat.reduceLeDiff, Nat.reduceMul, Nat.reduceLT, Nat.add_zero, Nat.zero_add, Nat.sub_zero, Nat.sub_self, Nat.le_refl, Nat.zero_le, ↓reduceIte, not_true_eq_false, not_false_eq_true, or_true, true_or, or_false, false_or, Option.some.injEq, ne_eq, implies_true, forall_const, forall_eq', forall_eq, and_self, or_self, Bool.or_true, Bool.or_false, Bool.true_or, Bool.false_or, Bool.and_true, Bool.and_false, Bool.true_and, Bool.false_and, Option.toList_some, Option.toList_none, Nat.succ_ne_zero, false_implies, true_implies, kx_l0, kd_sI, kd_sR, kd_sA, kd_sL, fI_sI_eq, fI_sI_ne, fR_sI, aI_sI, mL_sI, ln_sI, fR_sR_eq, fR_sR_ne, fI_sR, aI_sR, mL_sR, ln_sR, fI_sA, fR_sA, mL_sA, ln_sA, fI_sL, fR_sL, aI_sL, ln_sL, lo_X9_beginDay_0, lo_X9_beginDay_1, lo_X9_beginDay_2, lo_X9_beginDay_3, lo_X9_beginDay_4, lo_X9_beginDay_7, lo_X9_beginDay_10, lo_X9_beginDay_13, lo_X9_beginDay_14, lo_X9_beginDay_17, lo_X9_beginDay_18, lo_X9_beginDay_21, lo_X9_beginDay_24, lo_X9_beginDay_27, lo_X9_beginDay_28, lo_X9_beginDay_31, lo_X9_beginDay_34, lo_X9_beginDay_37, f2_Jx4a65c_size_8abf5, f2_Jx4a65c_get_915e3, f2_X1_putAll]
    have lp : ∀ (rest done : List Nat) (M' : kx_M), mL M t = done ++ rest → M' = done.foldl eDay M → kd M' = kd M → mL M' = mL M → fR M' = fR M → G 0 0 2 [(0, .ref m), (1, .int (nI done.length))] [] M' := by
      intro rest
      induction rest with
      | nil =>
        intro done M' hd hf hk hL hR
        rw [List.append_nil] at hd
        have hle := lend h4
        rw [hd] at hle
        refine kx_run_ok hG (kx_in [2]) 60 _ _ _ _ _ _ ?_
        simp only [kx_run_s, kx_run_z, kx_in, kx_beq, decide_true, decide_false, cond_true, cond_false, t_push, t_il, t_ll, t_al, t_is, t_ls, t_as, t_inc, t_bin, t_dv, t_lbin, t_lcmp, t_itl, t_dup, t_pop, t_dupx, t_go, t_gk, cutL, t_if, t_ic, t_nul, t_acmp, t_gI, t_gR, t_pI, t_pZ, t_pR, t_new, t_nwa, t_ial, t_ias, t_aln, t_cst, t_sln, t_sld, t_iret, t_zret, t_lret, t_aret, t_vret, t_no, t_call, t_fun, t_sw, sw_to0, t_oin, t_mm, t_qal, t_qas, t_qln, t_nwq, t_gcl, t_acp, lk, up1, cl1, up2, cl2, kx_c2, lv_args, kx_sum, kx_isr_r, kx_isr_n, kx_isr_v, kx_ex_r, kx_ex_n, kx_ex_v, kx_ex2_r, kx_ex2_n, kx_ex2_v, va_rf_s, va_rf_n, Value.ref.injEq, reduceCtorEq, exists_eq_left', exists_eq_left, exists_eq', exists_eq, true_and, and_true, false_and, and_false, List.length_cons, List.length_nil, List.take_succ_cons, List.take_zero, List.drop_succ_cons, List.drop_zero, List.reverse_cons, List.reverse_nil, List.nil_append, List.cons_append, List.append_nil, List.getElem?_cons_zero, List.getElem?_cons_succ, List.map_cons, List.map_nil, List.sum_cons, List.sum_nil, kx_cat_i, kx_cat_r, kx_cat_n, kx_cat_l, kx_cat_v, Nat.reduceAdd, Nat.reduceSub, Nat.reduceEqDiff, Nat.reduceLeDiff, Nat.reduceMul, Nat.reduceLT, Nat.add_zero, Nat.zero_add, Nat.sub_zero, Nat.sub_self, Nat.le_refl, Nat.zero_le, ↓reduceIte, not_true_eq_false, not_false_eq_true, or_true, true_or, or_false, false_or, Option.some.injEq, ne_eq, implies_true, forall_const, forall_eq', forall_eq, and_self, or_self, Bool.or_true, Bool.or_false, Bool.true_or, Bool.false_or, Bool.and_true, Bool.and_false, Bool.true_and, Bool.false_and, Option.toList_some, Option.toList_none, Nat.succ_ne_zero, false_implies, true_implies, kx_l0, kd_sI, kd_sR, kd_sA, kd_sL, fI_sI_eq, fI_sI_ne, fR_sI, aI_sI, mL_sI, ln_sI, fR_sR_eq, fR_sR_ne, fI_sR, aI_sR, mL_sR, ln_sR, fI_sA, fR_sA, mL_sA, ln_sA, fI_sL, fR_sL, aI_sL, ln_sL, lo_X9_beginDay_0, lo_X9_beginDay_1, lo_X9_beginDay_2, lo_X9_beginDay_3, lo_X9_beginDay_4, lo_X9_beginDay_7, lo_X9_beginDay_10, lo_X9_beginDay_13, lo_X9_beginDay_14, lo_X9_beginDay_17, lo_X9_beginDay_18, lo_X9_beginDay_21, lo_X9_beginDay_24, lo_X9_beginDay_27, lo_X9_beginDay_28, lo_X9_beginDay_31, lo_X9_beginDay_34, lo_X9_beginDay_37, f2_Jx4a65c_size_8abf5, f2_Jx4a65c_get_915e3, f2_X1_putAll, hk, hL, hR, hd, hle, h1, h2, h3]
        rw [hf]
      | cons o rest ih =>
        intro done M' hd hf hk hL hR
        obtain ⟨c1, c2, c3⟩ := lcond hd h4
        have c4 := lget hd h4
        have hmem : o ∈ mL M t := by rw [hd]; exact List.mem_append_right _ List.mem_cons_self
        obtain ⟨k1, q, k2, k3⟩ := h5 o hmem
        have hq : rf M' 100 o = q := by unfold rf; rw [hR, k2]; rfl
        have hd' : mL M t = (done ++ [o]) ++ rest := by rw [hd, List.append_assoc]; rfl
        have hn := ih (done ++ [o]) (eDay M' o) hd' (by rw [List.foldl_append, ← hf]; rfl) (by unfold eDay; simp only [kd_sA, hk]) (by unfold eDay; simp only [mL_sA, hL]) (by unfold eDay; simp only [fR_sA, hR])
        rw [← lsucc done o] at hn
        unfold eDay at hn
        rw [hq] at hn
        refine kx_run_ok hG (kx_in [2]) 60 _ _ _ _ _ _ ?_
        simp only [kx_run_s, kx_run_z, kx_in, kx_beq, decide_true, decide_false, cond_true, cond_false, t_push, t_il, t_ll, t_al, t_is, t_ls, t_as, t_inc, t_bin, t_dv, t_lbin, t_lcmp, t_itl, t_dup, t_pop, t_dupx, t_go, t_gk, cutL, t_if, t_ic, t_nul, t_acmp, t_gI, t_gR, t_pI, t_pZ, t_pR, t_new, t_nwa, t_ial, t_ias, t_aln, t_cst, t_sln, t_sld, t_iret, t_zret, t_lret, t_aret, t_vret, t_no, t_call, t_fun, t_sw, sw_to0, t_oin, t_mm, t_qal, t_qas, t_qln, t_nwq, t_gcl, t_acp, lk, up1, cl1, up2, cl2, kx_c2, lv_args, kx_sum, kx_isr_r, kx_isr_n, kx_isr_v, kx_ex_r, kx_ex_n, kx_ex_v, kx_ex2_r, kx_ex2_n, kx_ex2_v, va_rf_s, va_rf_n, Value.ref.injEq, reduceCtorEq, exists_eq_left', exists_eq_left, exists_eq', exists_eq, true_and, and_true, false_and, and_false, List.length_cons, List.length_nil, List.take_succ_cons, List.take_zero, List.drop_succ_cons, List.drop_zero, List.reverse_cons, List.reverse_nil, List.nil_append, List.cons_append, List.append_nil, List.getElem?_cons_zero, List.getElem?_cons_succ, List.map_cons, List.map_nil, List.sum_cons, List.sum_nil, kx_cat_i, kx_cat_r, kx_cat_n, kx_cat_l, kx_cat_v, Nat.reduceAdd, Nat.reduceSub, Nat.reduceEqDiff, Nat.reduceLeDiff, Nat.reduceMul, Nat.reduceLT, Nat.add_zero, Nat.zero_add, Nat.sub_zero, Nat.sub_self, Nat.le_refl, Nat.zero_le, ↓reduceIte, not_true_eq_false, not_false_eq_true, or_true, true_or, or_false, false_or, Option.some.injEq, ne_eq, implies_true, forall_const, forall_eq', forall_eq, and_self, or_self, Bool.or_true, Bool.or_false, Bool.true_or, Bool.false_or, Bool.and_true, Bool.and_false, Bool.true_and, Bool.false_and, Option.toList_some, Option.toList_none, Nat.succ_ne_zero, false_implies, true_implies, kx_l0, kd_sI, kd_sR, kd_sA, kd_sL, fI_sI_eq, fI_sI_ne, fR_sI, aI_sI, mL_sI, ln_sI, fR_sR_eq, fR_sR_ne, fI_sR, aI_sR, mL_sR, ln_sR, fI_sA, fR_sA, mL_sA, ln_sA, fI_sL, fR_sL, aI_sL, ln_sL, lo_X9_beginDay_0, lo_X9_beginDay_1, lo_X9_beginDay_2, lo_X9_beginDay_3, lo_X9_beginDay_4, lo_X9_beginDay_7, lo_X9_beginDay_10, lo_X9_beginDay_13, lo_X9_beginDay_14, lo_X9_beginDay_17, lo_X9_beginDay_18, lo_X9_beginDay_21, lo_X9_beginDay_24, lo_X9_beginDay_27, lo_X9_beginDay_28, lo_X9_beginDay_31, lo_X9_beginDay_34, lo_X9_beginDay_37, f2_Jx4a65c_size_8abf5, f2_Jx4a65c_get_915e3, f2_X1_putAll, hk, hL, hR, h1, h2, h3, c1, c2, c3, c4, k1, k2, k3]
        exact hn
    exact lp (mL M t) [] M rfl rfl rfl rfl rfl
  · intro h; exact h.elim
theorem f2_X9_beginDay_rc (E : kx_E) {av : List Value} {M : kx_M} (h : (f2_X9_beginDay E av M).1) : ∃ (a : Nat) (as : List Value), av = .ref a :: as ∧ kd M a = 11 := by
  unfold f2_X9_beginDay at h
  split at h
  · exact ⟨_, _, rfl, h.1⟩
  · exact h.elim

set_option maxRecDepth 16000 in
theorem f2_X9_growCrops_ok (E : kx_E) {av : List Value} {M : kx_M} (h : (f2_X9_growCrops E av M).1) : c2t_X9_growCrops E av M 0 0 (fun v M1 => v.toList = (f2_X9_growCrops E av M).2.1 ∧ M1 = (f2_X9_growCrops E av M).2.2) := by
  revert h
  unfold f2_X9_growCrops
  split
  · rename_i m
    intro h
    obtain ⟨h1, t, h2, h3, h4, h5⟩ := h
    have hr : rf M 201 m = t := by unfold rf; rw [h2]; rfl
    rw [hr]
    refine en_X9_growCrops E (Nat.le_of_ble_eq_true rfl) (fun G hG => kx_run_ok hG (kx_in [2]) 60 _ _ _ _ _ _ ?_)
    simp only [kx_run_s, kx_run_z, kx_in, kx_beq, decide_true, decide_false, cond_true, cond_false, t_push, t_il, t_ll, t_al, t_is, t_ls, t_as, t_inc, t_bin, t_dv, t_lbin, t_lcmp, t_itl, t_dup, t_pop, t_dupx, t_go, t_gk, cutL, t_if, t_ic, t_nul, t_acmp, t_gI, t_gR, t_pI, t_pZ, t_pR, t_new, t_nwa, t_ial, t_ias, t_aln, t_cst, t_sln, t_sld, t_iret, t_zret, t_lret, t_aret, t_vret, t_no, t_call, t_fun, t_sw, sw_to0, t_oin, t_mm, t_qal, t_qas, t_qln, t_nwq, t_gcl, t_acp, lk, up1, cl1, up2, cl2, kx_c2, lv_args, kx_sum, kx_isr_r, kx_isr_n, kx_isr_v, kx_ex_r, kx_ex_n, kx_ex_v, kx_ex2_r, kx_ex2_n, kx_ex2_v, va_rf_s, va_rf_n, Value.ref.injEq, reduceCtorEq, exists_eq_left', exists_eq_left, exists_eq', exists_eq, true_and, and_true, false_and, and_false, List.length_cons, List.length_nil, List.take_succ_cons, List.take_zero, List.drop_succ_cons, List.drop_zero, List.reverse_cons, List.reverse_nil, List.nil_append, List.cons_append, List.append_nil, List.getElem?_cons_zero, List.getElem?_cons_succ, List.map_cons, List.map_nil, List.sum_cons, List.sum_nil, kx_cat_i, kx_cat_r, kx_cat_n, kx_cat_l, kx_cat_v, Nat.reduceAdd, Nat.reduceSub, Nat.reduceEqDiff, Nat.reduceLeDiff, Nat.reduceMul, Nat.reduceLT, Nat.add_zero, Nat.zero_add, Nat.sub_zero, Nat.sub_self, Nat.le_refl, Nat.zero_le, ↓reduceIte, not_true_eq_false, not_false_eq_true, or_true, true_or, or_false, false_or, Option.some.injEq, ne_eq, implies_true, forall_const, forall_eq', forall_eq, and_self, or_self, Bool.or_true, Bool.or_false, Bool.true_or, Bool.false_or, Bool.and_true, Bool.and_false, Bool.true_and, Bool.false_and, Option.toList_some, Option.toList_none, Nat.succ_ne_zero, false_implies, true_implies, kx_l0, kd_sI, kd_sR, kd_sA, kd_sL, fI_sI_eq, fI_sI_ne, fR_sI, aI_sI, mL_sI, ln_sI, fR_sR_eq, fR_sR_ne, fI_sR, aI_sR, mL_sR, ln_sR, fI_sA, fR_sA, mL_sA, ln_sA, fI_sL, fR_sL, aI_sL, ln_sL, lo_X9_growCrops_0, lo_X9_growCrops_1, lo_X9_growCrops_2, lo_X9_growCrops_3, lo_X9_growCrops_4, lo_X9_growCrops_7, lo_X9_growCrops_10, lo_X9_growCrops_13, lo_X9_growCrops_14, lo_X9_growCrops_17, lo_X9_growCrops_18, lo_X9_growCrops_21, lo_X9_growCrops_24, lo_X9_growCrops_25, lo_X9_growCrops_26, lo_X9_growCrops_27, lo_X9_growCrops_30, lo_X9_growCrops_31, lo_X9_growCrops_34, lo_X9_growCrops_37, lo_X9_growCrops_38, lo_X9_growCrops_41, lo_X9_growCrops_44, lo_X9_growCrops_47, f2_Jx4a65c_size_8abf5, f2_Jx4a65c_get_915e3, f2_X3_growBy]
    have lp : ∀ (rest done : List Nat) (M' : kx_M), mL M t = done ++ rest → M' = done.foldl (eGrowC m) M → kd M' = kd M → mL M' = mL M → fR M' = fR M → G 0 0 2 [(0, .ref m), (1, .int (nI done.length))] [] M' := by
      intro rest
      induction rest with
      | nil =>
        intro done M' hd hf hk hL hR
        rw [List.append_nil] at hd
        have hle := lend h4
        rw [hd] at hle
        refine kx_run_ok hG (kx_in [2]) 60 _ _ _ _ _ _ ?_
        simp only [kx_run_s, kx_run_z, kx_in, kx_beq, decide_true, decide_false, cond_true, cond_false, t_push, t_il, t_ll, t_al, t_is, t_ls, t_as, t_inc, t_bin, t_dv, t_lbin, t_lcmp, t_itl, t_dup, t_pop, t_dupx, t_go, t_gk, cutL, t_if, t_ic, t_nul, t_acmp, t_gI, t_gR, t_pI, t_pZ, t_pR, t_new, t_nwa, t_ial, t_ias, t_aln, t_cst, t_sln, t_sld, t_iret, t_zret, t_lret, t_aret, t_vret, t_no, t_call, t_fun, t_sw, sw_to0, t_oin, t_mm, t_qal, t_qas, t_qln, t_nwq, t_gcl, t_acp, lk, up1, cl1, up2, cl2, kx_c2, lv_args, kx_sum, kx_isr_r, kx_isr_n, kx_isr_v, kx_ex_r, kx_ex_n, kx_ex_v, kx_ex2_r, kx_ex2_n, kx_ex2_v, va_rf_s, va_rf_n, Value.ref.injEq, reduceCtorEq, exists_eq_left', exists_eq_left, exists_eq', exists_eq, true_and, and_true, false_and, and_false, List.length_cons, List.length_nil, List.take_succ_cons, List.take_zero, List.drop_succ_cons, List.drop_zero, List.reverse_cons, List.reverse_nil, List.nil_append, List.cons_append, List.append_nil, List.getElem?_cons_zero, List.getElem?_cons_succ, List.map_cons, List.map_nil, List.sum_cons, List.sum_nil, kx_cat_i, kx_cat_r, kx_cat_n, kx_cat_l, kx_cat_v, Nat.reduceAdd, Nat.reduceSub, Nat.reduceEqDiff, Nat.reduceLeDiff, Nat.reduceMul, Nat.reduceLT, Nat.add_zero, Nat.zero_add, Nat.sub_zero, Nat.sub_self, Nat.le_refl, Nat.zero_le, ↓reduceIte, not_true_eq_false, not_false_eq_true, or_true, true_or, or_false, false_or, Option.some.injEq, ne_eq, implies_true, forall_const, forall_eq', forall_eq, and_self, or_self, Bool.or_true, Bool.or_false, Bool.true_or, Bool.false_or, Bool.and_true, Bool.and_false, Bool.true_and, Bool.false_and, Option.toList_some, Option.toList_none, Nat.succ_ne_zero, false_implies, true_implies, kx_l0, kd_sI, kd_sR, kd_sA, kd_sL, fI_sI_eq, fI_sI_ne, fR_sI, aI_sI, mL_sI, ln_sI, fR_sR_eq, fR_sR_ne, fI_sR, aI_sR, mL_sR, ln_sR, fI_sA, fR_sA, mL_sA, ln_sA, fI_sL, fR_sL, aI_sL, ln_sL, lo_X9_growCrops_0, lo_X9_growCrops_1, lo_X9_growCrops_2, lo_X9_growCrops_3, lo_X9_growCrops_4, lo_X9_growCrops_7, lo_X9_growCrops_10, lo_X9_growCrops_13, lo_X9_growCrops_14, lo_X9_growCrops_17, lo_X9_growCrops_18, lo_X9_growCrops_21, lo_X9_growCrops_24, lo_X9_growCrops_25, lo_X9_growCrops_26, lo_X9_growCrops_27, lo_X9_growCrops_30, lo_X9_growCrops_31, lo_X9_growCrops_34, lo_X9_growCrops_37, lo_X9_growCrops_38, lo_X9_growCrops_41, lo_X9_growCrops_44, lo_X9_growCrops_47, f2_Jx4a65c_size_8abf5, f2_Jx4a65c_get_915e3, f2_X3_growBy, hk, hL, hR, hd, hle, h1, h2, h3]
        rw [hf]
      | cons o rest ih =>
        intro done M' hd hf hk hL hR
        obtain ⟨c1, c2, c3⟩ := lcond hd h4
        have c4 := lget hd h4
        have hmem : o ∈ mL M t := by rw [hd]; exact List.mem_append_right _ List.mem_cons_self
        obtain ⟨k1, g, k2, k3⟩ := h5 o hmem
        have hq : rf M' 80 o = g := by unfold rf; rw [hR, k2]; rfl
        have hd' : mL M t = (done ++ [o]) ++ rest := by rw [hd, List.append_assoc]; rfl
        have hn := ih (done ++ [o]) ((eGrowC m) M' o) hd' (by rw [List.foldl_append, ← hf]; rfl) ((kd_eGrow _ _ _).trans hk) ((mL_eGrow _ _ _).trans hL) ((fR_eGrow _ _ _).trans hR)
        rw [← lsucc done o] at hn
        unfold eGrowC at hn
        rw [hq] at hn
        refine kx_run_ok hG (kx_in [2]) 60 _ _ _ _ _ _ ?_
        simp only [kx_run_s, kx_run_z, kx_in, kx_beq, decide_true, decide_false, cond_true, cond_false, t_push, t_il, t_ll, t_al, t_is, t_ls, t_as, t_inc, t_bin, t_dv, t_lbin, t_lcmp, t_itl, t_dup, t_pop, t_dupx, t_go, t_gk, cutL, t_if, t_ic, t_nul, t_acmp, t_gI, t_gR, t_pI, t_pZ, t_pR, t_new, t_nwa, t_ial, t_ias, t_aln, t_cst, t_sln, t_sld, t_iret, t_zret, t_lret, t_aret, t_vret, t_no, t_call, t_fun, t_sw, sw_to0, t_oin, t_mm, t_qal, t_qas, t_qln, t_nwq, t_gcl, t_acp, lk, up1, cl1, up2, cl2, kx_c2, lv_args, kx_sum, kx_isr_r, kx_isr_n, kx_isr_v, kx_ex_r, kx_ex_n, kx_ex_v, kx_ex2_r, kx_ex2_n, kx_ex2_v, va_rf_s, va_rf_n, Value.ref.injEq, reduceCtorEq, exists_eq_left', exists_eq_left, exists_eq', exists_eq, true_and, and_true, false_and, and_false, List.length_cons, List.length_nil, List.take_succ_cons, List.take_zero, List.drop_succ_cons, List.drop_zero, List.reverse_cons, List.reverse_nil, List.nil_append, List.cons_append, List.append_nil, List.getElem?_cons_zero, List.getElem?_cons_succ, List.map_cons, List.map_nil, List.sum_cons, List.sum_nil, kx_cat_i, kx_cat_r, kx_cat_n, kx_cat_l, kx_cat_v, Nat.reduceAdd, Nat.reduceSub, Nat.reduceEqDiff, Nat.reduceLeDiff, Nat.reduceMul, Nat.reduceLT, Nat.add_zero, Nat.zero_add, Nat.sub_zero, Nat.sub_self, Nat.le_refl, Nat.zero_le, ↓reduceIte, not_true_eq_false, not_false_eq_true, or_true, true_or, or_false, false_or, Option.some.injEq, ne_eq, implies_true, forall_const, forall_eq', forall_eq, and_self, or_self, Bool.or_true, Bool.or_false, Bool.true_or, Bool.false_or, Bool.and_true, Bool.and_false, Bool.true_and, Bool.false_and, Option.toList_some, Option.toList_none, Nat.succ_ne_zero, false_implies, true_implies, kx_l0, kd_sI, kd_sR, kd_sA, kd_sL, fI_sI_eq, fI_sI_ne, fR_sI, aI_sI, mL_sI, ln_sI, fR_sR_eq, fR_sR_ne, fI_sR, aI_sR, mL_sR, ln_sR, fI_sA, fR_sA, mL_sA, ln_sA, fI_sL, fR_sL, aI_sL, ln_sL, lo_X9_growCrops_0, lo_X9_growCrops_1, lo_X9_growCrops_2, lo_X9_growCrops_3, lo_X9_growCrops_4, lo_X9_growCrops_7, lo_X9_growCrops_10, lo_X9_growCrops_13, lo_X9_growCrops_14, lo_X9_growCrops_17, lo_X9_growCrops_18, lo_X9_growCrops_21, lo_X9_growCrops_24, lo_X9_growCrops_25, lo_X9_growCrops_26, lo_X9_growCrops_27, lo_X9_growCrops_30, lo_X9_growCrops_31, lo_X9_growCrops_34, lo_X9_growCrops_37, lo_X9_growCrops_38, lo_X9_growCrops_41, lo_X9_growCrops_44, lo_X9_growCrops_47, f2_Jx4a65c_size_8abf5, f2_Jx4a65c_get_915e3, f2_X3_growBy, hk, hL, hR, h1, h2, h3, c1, c2, c3, c4, k1, k2, k3]
        exact hn
    exact lp (mL M t) [] M rfl rfl rfl rfl rfl
  · intro h; exact h.elim
theorem f2_X9_growCrops_rc (E : kx_E) {av : List Value} {M : kx_M} (h : (f2_X9_growCrops E av M).1) : ∃ (a : Nat) (as : List Value), av = .ref a :: as ∧ kd M a = 11 := by
  unfold f2_X9_growCrops at h
  split at h
  · exact ⟨_, _, rfl, h.1⟩
  · exact h.elim

set_option maxRecDepth 16000 in
theorem f2_X9_payForLamps_ok (E : kx_E) {av : List Value} {M : kx_M} (h : (f2_X9_payForLamps E av M).1) : c2t_X9_payForLamps E av M 0 0 (fun v M1 => v.toList = (f2_X9_payForLamps E av M).2.1 ∧ M1 = (f2_X9_payForLamps E av M).2.2) := by
  revert h
  unfold f2_X9_payForLamps
  split
  · rename_i m
    intro h
    obtain ⟨h1, t, h2, h3, h4, h5⟩ := h
    have hr : rf M 200 m = t := by unfold rf; rw [h2]; rfl
    rw [hr]
    refine en_X9_payForLamps E (Nat.le_of_ble_eq_true rfl) (fun G hG => kx_run_ok hG (kx_in [2]) 60 _ _ _ _ _ _ ?_)
    simp only [kx_run_s, kx_run_z, kx_in, kx_beq, decide_true, decide_false, cond_true, cond_false, t_push, t_il, t_ll, t_al, t_is, t_ls, t_as, t_inc, t_bin, t_dv, t_lbin, t_lcmp, t_itl, t_dup, t_pop, t_dupx, t_go, t_gk, cutL, t_if, t_ic, t_nul, t_acmp, t_gI, t_gR, t_pI, t_pZ, t_pR, t_new, t_nwa, t_ial, t_ias, t_aln, t_cst, t_sln, t_sld, t_iret, t_zret, t_lret, t_aret, t_vret, t_no, t_call, t_fun, t_sw, sw_to0, t_oin, t_mm, t_qal, t_qas, t_qln, t_nwq, t_gcl, t_acp, lk, up1, cl1, up2, cl2, kx_c2, lv_args, kx_sum, kx_isr_r, kx_isr_n, kx_isr_v, kx_ex_r, kx_ex_n, kx_ex_v, kx_ex2_r, kx_ex2_n, kx_ex2_v, va_rf_s, va_rf_n, Value.ref.injEq, reduceCtorEq, exists_eq_left', exists_eq_left, exists_eq', exists_eq, true_and, and_true, false_and, and_false, List.length_cons, List.length_nil, List.take_succ_cons, List.take_zero, List.drop_succ_cons, List.drop_zero, List.reverse_cons, List.reverse_nil, List.nil_append, List.cons_append, List.append_nil, List.getElem?_cons_zero, List.getElem?_cons_succ, List.map_cons, List.map_nil, List.sum_cons, List.sum_nil, kx_cat_i, kx_cat_r, kx_cat_n, kx_cat_l, kx_cat_v, Nat.reduceAdd, Nat.reduceSub, Nat.reduceEqDiff, Nat.reduceLeDiff, Nat.reduceMul, Nat.reduceLT, Nat.add_zero, Nat.zero_add, Nat.sub_zero, Nat.sub_self, Nat.le_refl, Nat.zero_le, ↓reduceIte, not_true_eq_false, not_false_eq_true, or_true, true_or, or_false, false_or, Option.some.injEq, ne_eq, implies_true, forall_const, forall_eq', forall_eq, and_self, or_self, Bool.or_true, Bool.or_false, Bool.true_or, Bool.false_or, Bool.and_true, Bool.and_false, Bool.true_and, Bool.false_and, Option.toList_some, Option.toList_none, Nat.succ_ne_zero, false_implies, true_implies, kx_l0, kd_sI, kd_sR, kd_sA, kd_sL, fI_sI_eq, fI_sI_ne, fR_sI, aI_sI, mL_sI, ln_sI, fR_sR_eq, fR_sR_ne, fI_sR, aI_sR, mL_sR, ln_sR, fI_sA, fR_sA, mL_sA, ln_sA, fI_sL, fR_sL, aI_sL, ln_sL, lo_X9_payForLamps_0, lo_X9_payForLamps_1, lo_X9_payForLamps_2, lo_X9_payForLamps_3, lo_X9_payForLamps_4, lo_X9_payForLamps_7, lo_X9_payForLamps_10, lo_X9_payForLamps_13, lo_X9_payForLamps_14, lo_X9_payForLamps_17, lo_X9_payForLamps_18, lo_X9_payForLamps_21, lo_X9_payForLamps_24, lo_X9_payForLamps_25, lo_X9_payForLamps_26, lo_X9_payForLamps_27, lo_X9_payForLamps_30, lo_X9_payForLamps_31, lo_X9_payForLamps_34, lo_X9_payForLamps_35, lo_X9_payForLamps_38, lo_X9_payForLamps_41, lo_X9_payForLamps_44, f2_Jx4a65c_size_8abf5, f2_Jx4a65c_get_915e3]
    have lp : ∀ (rest done : List Nat) (M' : kx_M), mL M t = done ++ rest → M' = done.foldl ePay M → kd M' = kd M → mL M' = mL M → fR M' = fR M → G 0 0 2 [(0, .ref m), (1, .int (nI done.length))] [] M' := by
      intro rest
      induction rest with
      | nil =>
        intro done M' hd hf hk hL hR
        rw [List.append_nil] at hd
        have hle := lend h4
        rw [hd] at hle
        refine kx_run_ok hG (kx_in [2]) 60 _ _ _ _ _ _ ?_
        simp only [kx_run_s, kx_run_z, kx_in, kx_beq, decide_true, decide_false, cond_true, cond_false, t_push, t_il, t_ll, t_al, t_is, t_ls, t_as, t_inc, t_bin, t_dv, t_lbin, t_lcmp, t_itl, t_dup, t_pop, t_dupx, t_go, t_gk, cutL, t_if, t_ic, t_nul, t_acmp, t_gI, t_gR, t_pI, t_pZ, t_pR, t_new, t_nwa, t_ial, t_ias, t_aln, t_cst, t_sln, t_sld, t_iret, t_zret, t_lret, t_aret, t_vret, t_no, t_call, t_fun, t_sw, sw_to0, t_oin, t_mm, t_qal, t_qas, t_qln, t_nwq, t_gcl, t_acp, lk, up1, cl1, up2, cl2, kx_c2, lv_args, kx_sum, kx_isr_r, kx_isr_n, kx_isr_v, kx_ex_r, kx_ex_n, kx_ex_v, kx_ex2_r, kx_ex2_n, kx_ex2_v, va_rf_s, va_rf_n, Value.ref.injEq, reduceCtorEq, exists_eq_left', exists_eq_left, exists_eq', exists_eq, true_and, and_true, false_and, and_false, List.length_cons, List.length_nil, List.take_succ_cons, List.take_zero, List.drop_succ_cons, List.drop_zero, List.reverse_cons, List.reverse_nil, List.nil_append, List.cons_append, List.append_nil, List.getElem?_cons_zero, List.getElem?_cons_succ, List.map_cons, List.map_nil, List.sum_cons, List.sum_nil, kx_cat_i, kx_cat_r, kx_cat_n, kx_cat_l, kx_cat_v, Nat.reduceAdd, Nat.reduceSub, Nat.reduceEqDiff, Nat.reduceLeDiff, Nat.reduceMul, Nat.reduceLT, Nat.add_zero, Nat.zero_add, Nat.sub_zero, Nat.sub_self, Nat.le_refl, Nat.zero_le, ↓reduceIte, not_true_eq_false, not_false_eq_true, or_true, true_or, or_false, false_or, Option.some.injEq, ne_eq, implies_true, forall_const, forall_eq', forall_eq, and_self, or_self, Bool.or_true, Bool.or_false, Bool.true_or, Bool.false_or, Bool.and_true, Bool.and_false, Bool.true_and, Bool.false_and, Option.toList_some, Option.toList_none, Nat.succ_ne_zero, false_implies, true_implies, kx_l0, kd_sI, kd_sR, kd_sA, kd_sL, fI_sI_eq, fI_sI_ne, fR_sI, aI_sI, mL_sI, ln_sI, fR_sR_eq, fR_sR_ne, fI_sR, aI_sR, mL_sR, ln_sR, fI_sA, fR_sA, mL_sA, ln_sA, fI_sL, fR_sL, aI_sL, ln_sL, lo_X9_payForLamps_0, lo_X9_payForLamps_1, lo_X9_payForLamps_2, lo_X9_payForLamps_3, lo_X9_payForLamps_4, lo_X9_payForLamps_7, lo_X9_payForLamps_10, lo_X9_payForLamps_13, lo_X9_payForLamps_14, lo_X9_payForLamps_17, lo_X9_payForLamps_18, lo_X9_payForLamps_21, lo_X9_payForLamps_24, lo_X9_payForLamps_25, lo_X9_payForLamps_26, lo_X9_payForLamps_27, lo_X9_payForLamps_30, lo_X9_payForLamps_31, lo_X9_payForLamps_34, lo_X9_payForLamps_35, lo_X9_payForLamps_38, lo_X9_payForLamps_41, lo_X9_payForLamps_44, f2_Jx4a65c_size_8abf5, f2_Jx4a65c_get_915e3, hk, hL, hR, hd, hle, h1, h2, h3]
        rw [hf]
      | cons o rest ih =>
        intro done M' hd hf hk hL hR
        obtain ⟨c1, c2, c3⟩ := lcond hd h4
        have c4 := lget hd h4
        have hmem : o ∈ mL M t := by rw [hd]; exact List.mem_append_right _ List.mem_cons_self
        obtain ⟨k1, q, k2, k3⟩ := h5 o hmem
        have hd' : mL M t = (done ++ [o]) ++ rest := by rw [hd, List.append_assoc]; rfl
        have hn := ih (done ++ [o]) (ePay M' o) hd' (by rw [List.foldl_append, ← hf]; rfl) (by unfold ePay; rw [kd_sI, hk]) (by unfold ePay; rw [mL_sI, hL]) (by unfold ePay; rw [fR_sI, hR])
        rw [← lsucc done o] at hn
        unfold ePay at hn
        refine kx_run_ok hG (kx_in [2]) 60 _ _ _ _ _ _ ?_
        simp only [kx_run_s, kx_run_z, kx_in, kx_beq, decide_true, decide_false, cond_true, cond_false, t_push, t_il, t_ll, t_al, t_is, t_ls, t_as, t_inc, t_bin, t_dv, t_lbin, t_lcmp, t_itl, t_dup, t_pop, t_dupx, t_go, t_gk, cutL, t_if, t_ic, t_nul, t_acmp, t_gI, t_gR, t_pI, t_pZ, t_pR, t_new, t_nwa, t_ial, t_ias, t_aln, t_cst, t_sln, t_sld, t_iret, t_zret, t_lret, t_aret, t_vret, t_no, t_call, t_fun, t_sw, sw_to0, t_oin, t_mm, t_qal, t_qas, t_qln, t_nwq, t_gcl, t_acp, lk, up1, cl1, up2, cl2, kx_c2, lv_args, kx_sum, kx_isr_r, kx_isr_n, kx_isr_v, kx_ex_r, kx_ex_n, kx_ex_v, kx_ex2_r, kx_ex2_n, kx_ex2_v, va_rf_s, va_rf_n, Value.ref.injEq, reduceCtorEq, exists_eq_left', exists_eq_left, exists_eq', exists_eq, true_and, and_true, false_and, and_false, List.length_cons, List.length_nil, List.take_succ_cons, List.take_zero, List.drop_succ_cons, List.drop_zero, List.reverse_cons, List.reverse_nil, List.nil_append, List.cons_append, List.append_nil, List.getElem?_cons_zero, List.getElem?_cons_succ, List.map_cons, List.map_nil, List.sum_cons, List.sum_nil, kx_cat_i, kx_cat_r, kx_cat_n, kx_cat_l, kx_cat_v, Nat.reduceAdd, Nat.reduceSub, Nat.reduceEqDiff, Nat.reduceLeDiff, Nat.reduceMul, Nat.reduceLT, Nat.add_zero, Nat.zero_add, Nat.sub_zero, Nat.sub_self, Nat.le_refl, Nat.zero_le, ↓reduceIte, not_true_eq_false, not_false_eq_true, or_true, true_or, or_false, false_or, Option.some.injEq, ne_eq, implies_true, forall_const, forall_eq', forall_eq, and_self, or_self, Bool.or_true, Bool.or_false, Bool.true_or, Bool.false_or, Bool.and_true, Bool.and_false, Bool.true_and, Bool.false_and, Option.toList_some, Option.toList_none, Nat.succ_ne_zero, false_implies, true_implies, kx_l0, kd_sI, kd_sR, kd_sA, kd_sL, fI_sI_eq, fI_sI_ne, fR_sI, aI_sI, mL_sI, ln_sI, fR_sR_eq, fR_sR_ne, fI_sR, aI_sR, mL_sR, ln_sR, fI_sA, fR_sA, mL_sA, ln_sA, fI_sL, fR_sL, aI_sL, ln_sL, lo_X9_payForLamps_0, lo_X9_payForLamps_1, lo_X9_payForLamps_2, lo_X9_payForLamps_3, lo_X9_payForLamps_4, lo_X9_payForLamps_7, lo_X9_payForLamps_10, lo_X9_payForLamps_13, lo_X9_payForLamps_14, lo_X9_payForLamps_17, lo_X9_payForLamps_18, lo_X9_payForLamps_21, lo_X9_payForLamps_24, lo_X9_payForLamps_25, lo_X9_payForLamps_26, lo_X9_payForLamps_27, lo_X9_payForLamps_30, lo_X9_payForLamps_31, lo_X9_payForLamps_34, lo_X9_payForLamps_35, lo_X9_payForLamps_38, lo_X9_payForLamps_41, lo_X9_payForLamps_44, f2_Jx4a65c_size_8abf5, f2_Jx4a65c_get_915e3, hk, hL, hR, h1, h2, h3, c1, c2, c3, c4, k1]
        exact hn
    exact lp (mL M t) [] M rfl rfl rfl rfl rfl
  · intro h; exact h.elim
theorem f2_X9_payForLamps_rc (E : kx_E) {av : List Value} {M : kx_M} (h : (f2_X9_payForLamps E av M).1) : ∃ (a : Nat) (as : List Value), av = .ref a :: as ∧ kd M a = 11 := by
  unfold f2_X9_payForLamps at h
  split at h
  · exact ⟨_, _, rfl, h.1⟩
  · exact h.elim

set_option maxRecDepth 16000 in
theorem f2_X9_loseLife_ok (E : kx_E) {av : List Value} {M : kx_M} (h : (f2_X9_loseLife E av M).1) : c2t_X9_loseLife E av M 0 0 (fun v M1 => v.toList = (f2_X9_loseLife E av M).2.1 ∧ M1 = (f2_X9_loseLife E av M).2.2) := by
  revert h
  unfold f2_X9_loseLife
  split
  · rename_i m
    intro h
    obtain ⟨⟨h1, t, h2, h3, h4, h5⟩, -, u, q2, q3, q4, q5⟩ := h
    have hr : rf M 202 m = t := by unfold rf; rw [h2]; rfl
    have hr2 : rf M 206 m = u := by unfold rf; rw [q2]; rfl
    rw [hr, hr2]
    refine en_X9_loseLife E (Nat.le_of_ble_eq_true rfl) (fun G hG => kx_run_ok hG (kx_in [2, 60]) 60 _ _ _ _ _ _ ?_)
    simp only [kx_run_s, kx_run_z, kx_in, kx_beq, decide_true, decide_false, cond_true, cond_false, t_push, t_il, t_ll, t_al, t_is, t_ls, t_as, t_inc, t_bin, t_dv, t_lbin, t_lcmp, t_itl, t_dup, t_pop, t_dupx, t_go, t_gk, cutL, t_if, t_ic, t_nul, t_acmp, t_gI, t_gR, t_pI, t_pZ, t_pR, t_new, t_nwa, t_ial, t_ias, t_aln, t_cst, t_sln, t_sld, t_iret, t_zret, t_lret, t_aret, t_vret, t_no, t_call, t_fun, t_sw, sw_to0, t_oin, t_mm, t_qal, t_qas, t_qln, t_nwq, t_gcl, t_acp, lk, up1, cl1, up2, cl2, kx_c2, lv_args, kx_sum, kx_isr_r, kx_isr_n, kx_isr_v, kx_ex_r, kx_ex_n, kx_ex_v, kx_ex2_r, kx_ex2_n, kx_ex2_v, va_rf_s, va_rf_n, Value.ref.injEq, reduceCtorEq, exists_eq_left', exists_eq_left, exists_eq', exists_eq, true_and, and_true, false_and, and_false, List.length_cons, List.length_nil, List.take_succ_cons, List.take_zero, List.drop_succ_cons, List.drop_zero, List.reverse_cons, List.reverse_nil, List.nil_append, List.cons_append, List.append_nil, List.getElem?_cons_zero, List.getElem?_cons_succ, List.map_cons, List.map_nil, List.sum_cons, List.sum_nil, kx_cat_i, kx_cat_r, kx_cat_n, kx_cat_l, kx_cat_v, Nat.reduceAdd, Nat.reduceSub, Nat.reduceEqDiff, Nat.reduceLeDiff, Nat.reduceMul, Nat.reduceLT, Nat.add_zero, Nat.zero_add, Nat.sub_zero, Nat.sub_self, Nat.le_refl, Nat.zero_le, ↓reduceIte, not_true_eq_false, not_false_eq_true, or_true, true_or, or_false, false_or, Option.some.injEq, ne_eq, implies_true, forall_const, forall_eq', forall_eq, and_self, or_self, Bool.or_true, Bool.or_false, Bool.true_or, Bool.false_or, Bool.and_true, Bool.and_false, Bool.true_and, Bool.false_and, Option.toList_some, Option.toList_none, Nat.succ_ne_zero, false_implies, true_implies, kx_l0, kd_sI, kd_sR, kd_sA, kd_sL, fI_sI_eq, fI_sI_ne, fR_sI, aI_sI, mL_sI, ln_sI, fR_sR_eq, fR_sR_ne, fI_sR, aI_sR, mL_sR, ln_sR, fI_sA, fR_sA, mL_sA, ln_sA, fI_sL, fR_sL, aI_sL, ln_sL, lo_X9_loseLife_0, lo_X9_loseLife_1, lo_X9_loseLife_2, lo_X9_loseLife_3, lo_X9_loseLife_4, lo_X9_loseLife_7, lo_X9_loseLife_10, lo_X9_loseLife_13, lo_X9_loseLife_14, lo_X9_loseLife_17, lo_X9_loseLife_18, lo_X9_loseLife_21, lo_X9_loseLife_24, lo_X9_loseLife_25, lo_X9_loseLife_26, lo_X9_loseLife_29, lo_X9_loseLife_32, lo_X9_loseLife_33, lo_X9_loseLife_34, lo_X9_loseLife_35, lo_X9_loseLife_38, lo_X9_loseLife_39, lo_X9_loseLife_42, lo_X9_loseLife_45, lo_X9_loseLife_46, lo_X9_loseLife_49, lo_X9_loseLife_52, lo_X9_loseLife_55, lo_X9_loseLife_58, lo_X9_loseLife_59, lo_X9_loseLife_60, lo_X9_loseLife_61, lo_X9_loseLife_62, lo_X9_loseLife_65, lo_X9_loseLife_68, lo_X9_loseLife_71, lo_X9_loseLife_72, lo_X9_loseLife_75, lo_X9_loseLife_76, lo_X9_loseLife_79, lo_X9_loseLife_82, lo_X9_loseLife_83, lo_X9_loseLife_84, lo_X9_loseLife_85, lo_X9_loseLife_86, lo_X9_loseLife_89, lo_X9_loseLife_90, lo_X9_loseLife_91, lo_X9_loseLife_94, lo_X9_loseLife_97, lo_X9_loseLife_100, lo_X9_loseLife_103, f2_Jx4a65c_size_8abf5, f2_Jx4a65c_get_915e3, f2_X9_lifeLostIn]
    have lp2 : ∀ (rest done : List Nat) (M' : kx_M), mL M u = done ++ rest → M' = done.foldl eLoseT ((mL M t).foldl eLose M) → kd M' = kd M → mL M' = mL M → fR M' = fR M → G 0 0 60 [(0, .ref m), (1, .int (nI done.length))] [] M' := by
      intro rest
      induction rest with
      | nil =>
        intro done M' hd hf hk hL hR
        rw [List.append_nil] at hd
        have hle := lend q4
        rw [hd] at hle
        refine kx_run_ok hG (kx_in [2, 60]) 60 _ _ _ _ _ _ ?_
        simp only [kx_run_s, kx_run_z, kx_in, kx_beq, decide_true, decide_false, cond_true, cond_false, t_push, t_il, t_ll, t_al, t_is, t_ls, t_as, t_inc, t_bin, t_dv, t_lbin, t_lcmp, t_itl, t_dup, t_pop, t_dupx, t_go, t_gk, cutL, t_if, t_ic, t_nul, t_acmp, t_gI, t_gR, t_pI, t_pZ, t_pR, t_new, t_nwa, t_ial, t_ias, t_aln, t_cst, t_sln, t_sld, t_iret, t_zret, t_lret, t_aret, t_vret, t_no, t_call, t_fun, t_sw, sw_to0, t_oin, t_mm, t_qal, t_qas, t_qln, t_nwq, t_gcl, t_acp, lk, up1, cl1, up2, cl2, kx_c2, lv_args, kx_sum, kx_isr_r, kx_isr_n, kx_isr_v, kx_ex_r, kx_ex_n, kx_ex_v, kx_ex2_r, kx_ex2_n, kx_ex2_v, va_rf_s, va_rf_n, Value.ref.injEq, reduceCtorEq, exists_eq_left', exists_eq_left, exists_eq', exists_eq, true_and, and_true, false_and, and_false, List.length_cons, List.length_nil, List.take_succ_cons, List.take_zero, List.drop_succ_cons, List.drop_zero, List.reverse_cons, List.reverse_nil, List.nil_append, List.cons_append, List.append_nil, List.getElem?_cons_zero, List.getElem?_cons_succ, List.map_cons, List.map_nil, List.sum_cons, List.sum_nil, kx_cat_i, kx_cat_r, kx_cat_n, kx_cat_l, kx_cat_v, Nat.reduceAdd, Nat.reduceSub, Nat.reduceEqDiff, Nat.reduceLeDiff, Nat.reduceMul, Nat.reduceLT, Nat.add_zero, Nat.zero_add, Nat.sub_zero, Nat.sub_self, Nat.le_refl, Nat.zero_le, ↓reduceIte, not_true_eq_false, not_false_eq_true, or_true, true_or, or_false, false_or, Option.some.injEq, ne_eq, implies_true, forall_const, forall_eq', forall_eq, and_self, or_self, Bool.or_true, Bool.or_false, Bool.true_or, Bool.false_or, Bool.and_true, Bool.and_false, Bool.true_and, Bool.false_and, Option.toList_some, Option.toList_none, Nat.succ_ne_zero, false_implies, true_implies, kx_l0, kd_sI, kd_sR, kd_sA, kd_sL, fI_sI_eq, fI_sI_ne, fR_sI, aI_sI, mL_sI, ln_sI, fR_sR_eq, fR_sR_ne, fI_sR, aI_sR, mL_sR, ln_sR, fI_sA, fR_sA, mL_sA, ln_sA, fI_sL, fR_sL, aI_sL, ln_sL, lo_X9_loseLife_0, lo_X9_loseLife_1, lo_X9_loseLife_2, lo_X9_loseLife_3, lo_X9_loseLife_4, lo_X9_loseLife_7, lo_X9_loseLife_10, lo_X9_loseLife_13, lo_X9_loseLife_14, lo_X9_loseLife_17, lo_X9_loseLife_18, lo_X9_loseLife_21, lo_X9_loseLife_24, lo_X9_loseLife_25, lo_X9_loseLife_26, lo_X9_loseLife_29, lo_X9_loseLife_32, lo_X9_loseLife_33, lo_X9_loseLife_34, lo_X9_loseLife_35, lo_X9_loseLife_38, lo_X9_loseLife_39, lo_X9_loseLife_42, lo_X9_loseLife_45, lo_X9_loseLife_46, lo_X9_loseLife_49, lo_X9_loseLife_52, lo_X9_loseLife_55, lo_X9_loseLife_58, lo_X9_loseLife_59, lo_X9_loseLife_60, lo_X9_loseLife_61, lo_X9_loseLife_62, lo_X9_loseLife_65, lo_X9_loseLife_68, lo_X9_loseLife_71, lo_X9_loseLife_72, lo_X9_loseLife_75, lo_X9_loseLife_76, lo_X9_loseLife_79, lo_X9_loseLife_82, lo_X9_loseLife_83, lo_X9_loseLife_84, lo_X9_loseLife_85, lo_X9_loseLife_86, lo_X9_loseLife_89, lo_X9_loseLife_90, lo_X9_loseLife_91, lo_X9_loseLife_94, lo_X9_loseLife_97, lo_X9_loseLife_100, lo_X9_loseLife_103, f2_Jx4a65c_size_8abf5, f2_Jx4a65c_get_915e3, f2_X9_lifeLostIn, hk, hL, hR, hd, hle, h1, q2, q3]
        rw [hf]
      | cons o rest ih =>
        intro done M' hd hf hk hL hR
        obtain ⟨c1, c2, c3⟩ := lcond hd q4
        have c4 := lget hd q4
        have hmem : o ∈ mL M u := by rw [hd]; exact List.mem_append_right _ List.mem_cons_self
        obtain ⟨k1, -⟩ := q5 o hmem
        have hd' : mL M u = (done ++ [o]) ++ rest := by rw [hd, List.append_assoc]; rfl
        have hn := ih (done ++ [o]) (eLoseT M' o) hd' (by rw [List.foldl_append, ← hf]; rfl) (by unfold eLoseT; rw [kd_sI, hk]) (by unfold eLoseT; rw [mL_sI, hL]) (by unfold eLoseT; rw [fR_sI, hR])
        rw [← lsucc done o] at hn
        unfold eLoseT vMax at hn
        refine kx_run_ok hG (kx_in [2, 60]) 60 _ _ _ _ _ _ ?_
        simp only [kx_run_s, kx_run_z, kx_in, kx_beq, decide_true, decide_false, cond_true, cond_false, t_push, t_il, t_ll, t_al, t_is, t_ls, t_as, t_inc, t_bin, t_dv, t_lbin, t_lcmp, t_itl, t_dup, t_pop, t_dupx, t_go, t_gk, cutL, t_if, t_ic, t_nul, t_acmp, t_gI, t_gR, t_pI, t_pZ, t_pR, t_new, t_nwa, t_ial, t_ias, t_aln, t_cst, t_sln, t_sld, t_iret, t_zret, t_lret, t_aret, t_vret, t_no, t_call, t_fun, t_sw, sw_to0, t_oin, t_mm, t_qal, t_qas, t_qln, t_nwq, t_gcl, t_acp, lk, up1, cl1, up2, cl2, kx_c2, lv_args, kx_sum, kx_isr_r, kx_isr_n, kx_isr_v, kx_ex_r, kx_ex_n, kx_ex_v, kx_ex2_r, kx_ex2_n, kx_ex2_v, va_rf_s, va_rf_n, Value.ref.injEq, reduceCtorEq, exists_eq_left', exists_eq_left, exists_eq', exists_eq, true_and, and_true, false_and, and_false, List.length_cons, List.length_nil, List.take_succ_cons, List.take_zero, List.drop_succ_cons, List.drop_zero, List.reverse_cons, List.reverse_nil, List.nil_append, List.cons_append, List.append_nil, List.getElem?_cons_zero, List.getElem?_cons_succ, List.map_cons, List.map_nil, List.sum_cons, List.sum_nil, kx_cat_i, kx_cat_r, kx_cat_n, kx_cat_l, kx_cat_v, Nat.reduceAdd, Nat.reduceSub, Nat.reduceEqDiff, Nat.reduceLeDiff, Nat.reduceMul, Nat.reduceLT, Nat.add_zero, Nat.zero_add, Nat.sub_zero, Nat.sub_self, Nat.le_refl, Nat.zero_le, ↓reduceIte, not_true_eq_false, not_false_eq_true, or_true, true_or, or_false, false_or, Option.some.injEq, ne_eq, implies_true, forall_const, forall_eq', forall_eq, and_self, or_self, Bool.or_true, Bool.or_false, Bool.true_or, Bool.false_or, Bool.and_true, Bool.and_false, Bool.true_and, Bool.false_and, Option.toList_some, Option.toList_none, Nat.succ_ne_zero, false_implies, true_implies, kx_l0, kd_sI, kd_sR, kd_sA, kd_sL, fI_sI_eq, fI_sI_ne, fR_sI, aI_sI, mL_sI, ln_sI, fR_sR_eq, fR_sR_ne, fI_sR, aI_sR, mL_sR, ln_sR, fI_sA, fR_sA, mL_sA, ln_sA, fI_sL, fR_sL, aI_sL, ln_sL, lo_X9_loseLife_0, lo_X9_loseLife_1, lo_X9_loseLife_2, lo_X9_loseLife_3, lo_X9_loseLife_4, lo_X9_loseLife_7, lo_X9_loseLife_10, lo_X9_loseLife_13, lo_X9_loseLife_14, lo_X9_loseLife_17, lo_X9_loseLife_18, lo_X9_loseLife_21, lo_X9_loseLife_24, lo_X9_loseLife_25, lo_X9_loseLife_26, lo_X9_loseLife_29, lo_X9_loseLife_32, lo_X9_loseLife_33, lo_X9_loseLife_34, lo_X9_loseLife_35, lo_X9_loseLife_38, lo_X9_loseLife_39, lo_X9_loseLife_42, lo_X9_loseLife_45, lo_X9_loseLife_46, lo_X9_loseLife_49, lo_X9_loseLife_52, lo_X9_loseLife_55, lo_X9_loseLife_58, lo_X9_loseLife_59, lo_X9_loseLife_60, lo_X9_loseLife_61, lo_X9_loseLife_62, lo_X9_loseLife_65, lo_X9_loseLife_68, lo_X9_loseLife_71, lo_X9_loseLife_72, lo_X9_loseLife_75, lo_X9_loseLife_76, lo_X9_loseLife_79, lo_X9_loseLife_82, lo_X9_loseLife_83, lo_X9_loseLife_84, lo_X9_loseLife_85, lo_X9_loseLife_86, lo_X9_loseLife_89, lo_X9_loseLife_90, lo_X9_loseLife_91, lo_X9_loseLife_94, lo_X9_loseLife_97, lo_X9_loseLife_100, lo_X9_loseLife_103, f2_Jx4a65c_size_8abf5, f2_Jx4a65c_get_915e3, f2_X9_lifeLostIn, hk, hL, hR, h1, q2, q3, c1, c2, c3, c4, k1]
        exact hn
    have lp1 : ∀ (rest done : List Nat) (M' : kx_M), mL M t = done ++ rest → M' = done.foldl eLose M → kd M' = kd M → mL M' = mL M → fR M' = fR M → G 0 0 2 [(0, .ref m), (1, .int (nI done.length))] [] M' := by
      intro rest
      induction rest with
      | nil =>
        intro done M' hd hf hk hL hR
        rw [List.append_nil] at hd
        have hle := lend h4
        rw [hd] at hle
        refine kx_run_ok hG (kx_in [2, 60]) 60 _ _ _ _ _ _ ?_
        simp only [kx_run_s, kx_run_z, kx_in, kx_beq, decide_true, decide_false, cond_true, cond_false, t_push, t_il, t_ll, t_al, t_is, t_ls, t_as, t_inc, t_bin, t_dv, t_lbin, t_lcmp, t_itl, t_dup, t_pop, t_dupx, t_go, t_gk, cutL, t_if, t_ic, t_nul, t_acmp, t_gI, t_gR, t_pI, t_pZ, t_pR, t_new, t_nwa, t_ial, t_ias, t_aln, t_cst, t_sln, t_sld, t_iret, t_zret, t_lret, t_aret, t_vret, t_no, t_call, t_fun, t_sw, sw_to0, t_oin, t_mm, t_qal, t_qas, t_qln, t_nwq, t_gcl, t_acp, lk, up1, cl1, up2, cl2, kx_c2, lv_args, kx_sum, kx_isr_r, kx_isr_n, kx_isr_v, kx_ex_r, kx_ex_n, kx_ex_v, kx_ex2_r, kx_ex2_n, kx_ex2_v, va_rf_s, va_rf_n, Value.ref.injEq, reduceCtorEq, exists_eq_left', exists_eq_left, exists_eq', exists_eq, true_and, and_true, false_and, and_false, List.length_cons, List.length_nil, List.take_succ_cons, List.take_zero, List.drop_succ_cons, List.drop_zero, List.reverse_cons, List.reverse_nil, List.nil_append, List.cons_append, List.append_nil, List.getElem?_cons_zero, List.getElem?_cons_succ, List.map_cons, List.map_nil, List.sum_cons, List.sum_nil, kx_cat_i, kx_cat_r, kx_cat_n, kx_cat_l, kx_cat_v, Nat.reduceAdd, Nat.reduceSub, Nat.reduceEqDiff, Nat.reduceLeDiff, Nat.reduceMul, Nat.reduceLT, Nat.add_zero, Nat.zero_add, Nat.sub_zero, Nat.sub_self, Nat.le_refl, Nat.zero_le, ↓reduceIte, not_true_eq_false, not_false_eq_true, or_true, true_or, or_false, false_or, Option.some.injEq, ne_eq, implies_true, forall_const, forall_eq', forall_eq, and_self, or_self, Bool.or_true, Bool.or_false, Bool.true_or, Bool.false_or, Bool.and_true, Bool.and_false, Bool.true_and, Bool.false_and, Option.toList_some, Option.toList_none, Nat.succ_ne_zero, false_implies, true_implies, kx_l0, kd_sI, kd_sR, kd_sA, kd_sL, fI_sI_eq, fI_sI_ne, fR_sI, aI_sI, mL_sI, ln_sI, fR_sR_eq, fR_sR_ne, fI_sR, aI_sR, mL_sR, ln_sR, fI_sA, fR_sA, mL_sA, ln_sA, fI_sL, fR_sL, aI_sL, ln_sL, lo_X9_loseLife_0, lo_X9_loseLife_1, lo_X9_loseLife_2, lo_X9_loseLife_3, lo_X9_loseLife_4, lo_X9_loseLife_7, lo_X9_loseLife_10, lo_X9_loseLife_13, lo_X9_loseLife_14, lo_X9_loseLife_17, lo_X9_loseLife_18, lo_X9_loseLife_21, lo_X9_loseLife_24, lo_X9_loseLife_25, lo_X9_loseLife_26, lo_X9_loseLife_29, lo_X9_loseLife_32, lo_X9_loseLife_33, lo_X9_loseLife_34, lo_X9_loseLife_35, lo_X9_loseLife_38, lo_X9_loseLife_39, lo_X9_loseLife_42, lo_X9_loseLife_45, lo_X9_loseLife_46, lo_X9_loseLife_49, lo_X9_loseLife_52, lo_X9_loseLife_55, lo_X9_loseLife_58, lo_X9_loseLife_59, lo_X9_loseLife_60, lo_X9_loseLife_61, lo_X9_loseLife_62, lo_X9_loseLife_65, lo_X9_loseLife_68, lo_X9_loseLife_71, lo_X9_loseLife_72, lo_X9_loseLife_75, lo_X9_loseLife_76, lo_X9_loseLife_79, lo_X9_loseLife_82, lo_X9_loseLife_83, lo_X9_loseLife_84, lo_X9_loseLife_85, lo_X9_loseLife_86, lo_X9_loseLife_89, lo_X9_loseLife_90, lo_X9_loseLife_91, lo_X9_loseLife_94, lo_X9_loseLife_97, lo_X9_loseLife_100, lo_X9_loseLife_103, f2_Jx4a65c_size_8abf5, f2_Jx4a65c_get_915e3, f2_X9_lifeLostIn, hk, hL, hR, hd, hle, h1, h2, h3]
        exact lp2 (mL M u) [] M' rfl (by rw [hf, hd]; rfl) hk hL hR
      | cons o rest ih =>
        intro done M' hd hf hk hL hR
        obtain ⟨c1, c2, c3⟩ := lcond hd h4
        have c4 := lget hd h4
        have hmem : o ∈ mL M t := by rw [hd]; exact List.mem_append_right _ List.mem_cons_self
        have k1 := h5 o hmem
        have hd' : mL M t = (done ++ [o]) ++ rest := by rw [hd, List.append_assoc]; rfl
        have hn := ih (done ++ [o]) (eLose M' o) hd' (by rw [List.foldl_append, ← hf]; rfl) ((kd_eLose _ _).trans hk) ((mL_eLose _ _).trans hL) ((fR_eLose _ _).trans hR)
        rw [← lsucc done o] at hn
        unfold eLose vMax at hn
        refine kx_run_ok hG (kx_in [2, 60]) 60 _ _ _ _ _ _ ?_
        simp only [kx_run_s, kx_run_z, kx_in, kx_beq, decide_true, decide_false, cond_true, cond_false, t_push, t_il, t_ll, t_al, t_is, t_ls, t_as, t_inc, t_bin, t_dv, t_lbin, t_lcmp, t_itl, t_dup, t_pop, t_dupx, t_go, t_gk, cutL, t_if, t_ic, t_nul, t_acmp, t_gI, t_gR, t_pI, t_pZ, t_pR, t_new, t_nwa, t_ial, t_ias, t_aln, t_cst, t_sln, t_sld, t_iret, t_zret, t_lret, t_aret, t_vret, t_no, t_call, t_fun, t_sw, sw_to0, t_oin, t_mm, t_qal, t_qas, t_qln, t_nwq, t_gcl, t_acp, lk, up1, cl1, up2, cl2, kx_c2, lv_args, kx_sum, kx_isr_r, kx_isr_n, kx_isr_v, kx_ex_r, kx_ex_n, kx_ex_v, kx_ex2_r, kx_ex2_n, kx_ex2_v, va_rf_s, va_rf_n, Value.ref.injEq, reduceCtorEq, exists_eq_left', exists_eq_left, exists_eq', exists_eq, true_and, and_true, false_and, and_false, List.length_cons, List.length_nil, List.take_succ_cons, List.take_zero, List.drop_succ_cons, List.drop_zero, List.reverse_cons, List.reverse_nil, List.nil_append, List.cons_append, List.append_nil, List.getElem?_cons_zero, List.getElem?_cons_succ, List.map_cons, List.map_nil, List.sum_cons, List.sum_nil, kx_cat_i, kx_cat_r, kx_cat_n, kx_cat_l, kx_cat_v, Nat.reduceAdd, Nat.reduceSub, Nat.reduceEqDiff, Nat.reduceLeDiff, Nat.reduceMul, Nat.reduceLT, Nat.add_zero, Nat.zero_add, Nat.sub_zero, Nat.sub_self, Nat.le_refl, Nat.zero_le, ↓reduceIte, not_true_eq_false, not_false_eq_true, or_true, true_or, or_false, false_or, Option.some.injEq, ne_eq, implies_true, forall_const, forall_eq', forall_eq, and_self, or_self, Bool.or_true, Bool.or_false, Bool.true_or, Bool.false_or, Bool.and_true, Bool.and_false, Bool.true_and, Bool.false_and, Option.toList_some, Option.toList_none, Nat.succ_ne_zero, false_implies, true_implies, kx_l0, kd_sI, kd_sR, kd_sA, kd_sL, fI_sI_eq, fI_sI_ne, fR_sI, aI_sI, mL_sI, ln_sI, fR_sR_eq, fR_sR_ne, fI_sR, aI_sR, mL_sR, ln_sR, fI_sA, fR_sA, mL_sA, ln_sA, fI_sL, fR_sL, aI_sL, ln_sL, lo_X9_loseLife_0, lo_X9_loseLife_1, lo_X9_loseLife_2, lo_X9_loseLife_3, lo_X9_loseLife_4, lo_X9_loseLife_7, lo_X9_loseLife_10, lo_X9_loseLife_13, lo_X9_loseLife_14, lo_X9_loseLife_17, lo_X9_loseLife_18, lo_X9_loseLife_21, lo_X9_loseLife_24, lo_X9_loseLife_25, lo_X9_loseLife_26, lo_X9_loseLife_29, lo_X9_loseLife_32, lo_X9_loseLife_33, lo_X9_loseLife_34, lo_X9_loseLife_35, lo_X9_loseLife_38, lo_X9_loseLife_39, lo_X9_loseLife_42, lo_X9_loseLife_45, lo_X9_loseLife_46, lo_X9_loseLife_49, lo_X9_loseLife_52, lo_X9_loseLife_55, lo_X9_loseLife_58, lo_X9_loseLife_59, lo_X9_loseLife_60, lo_X9_loseLife_61, lo_X9_loseLife_62, lo_X9_loseLife_65, lo_X9_loseLife_68, lo_X9_loseLife_71, lo_X9_loseLife_72, lo_X9_loseLife_75, lo_X9_loseLife_76, lo_X9_loseLife_79, lo_X9_loseLife_82, lo_X9_loseLife_83, lo_X9_loseLife_84, lo_X9_loseLife_85, lo_X9_loseLife_86, lo_X9_loseLife_89, lo_X9_loseLife_90, lo_X9_loseLife_91, lo_X9_loseLife_94, lo_X9_loseLife_97, lo_X9_loseLife_100, lo_X9_loseLife_103, f2_Jx4a65c_size_8abf5, f2_Jx4a65c_get_915e3, f2_X9_lifeLostIn, hk, hL, hR, h1, h2, h3, c1, c2, c3, c4, k1]
        refine ⟨fun z => ?_, fun z => ?_⟩
        · rw [if_pos z] at hn
          exact hn
        · rw [if_neg z] at hn
          exact hn
    exact lp1 (mL M t) [] M rfl rfl rfl rfl rfl
  · intro h; exact h.elim
theorem f2_X9_loseLife_rc (E : kx_E) {av : List Value} {M : kx_M} (h : (f2_X9_loseLife E av M).1) : ∃ (a : Nat) (as : List Value), av = .ref a :: as ∧ kd M a = 11 := by
  unfold f2_X9_loseLife at h
  split at h
  · exact ⟨_, _, rfl, h.1.1⟩
  · exact h.elim

theorem vNr1_i (M : kx_M) (s : Nat × Nat × Int32) (x : Nat) : (vNr1 M s x).1 = s.1 + 1 := by
  unfold vNr1
  split
  · rfl
  · split <;> rfl
theorem vNr1_le (M : kx_M) (s : Nat × Nat × Int32) (x : Nat) (h : s.2.1 ≤ s.1) : (vNr1 M s x).2.1 ≤ s.1 := by
  unfold vNr1
  split
  · exact h
  · split
    · exact h
    · exact Nat.le_refl _
theorem vNr_i (M : kx_M) (l : List Nat) (s : Nat × Nat × Int32) : (l.foldl (vNr1 M) s).1 = s.1 + l.length := by
  induction l generalizing s with
  | nil => rfl
  | cons x l ih =>
    rw [List.foldl_cons, ih, List.length_cons]
    have := vNr1_i M s x
    omega
theorem vNr_le (M : kx_M) (l : List Nat) (s : Nat × Nat × Int32) (h : s.2.1 ≤ s.1) : (l.foldl (vNr1 M) s).2.1 ≤ s.1 + l.length - 1 ∨ l = [] := by
  induction l generalizing s with
  | nil => exact Or.inr rfl
  | cons x l ih =>
    rw [List.foldl_cons, List.length_cons]
    have e1 := vNr1_i M s x
    have e2 := vNr1_le M s x h
    rcases ih (vNr1 M s x) (by omega) with z | z
    · left; omega
    · subst z; left; show (vNr1 M s x).2.1 ≤ _; omega
theorem vNr_lt (M : kx_M) {l : List Nat} (h : l.length ≠ 0) : vNr M l < l.length := by
  unfold vNr
  rcases vNr_le M l (0, 0, 10000) (Nat.le_refl _) with z | z
  · have z' : (l.foldl (vNr1 M) (0, 0, 10000)).2.1 ≤ 0 + l.length - 1 := z
    omega
  · rw [z] at h; exact absurd rfl h
set_option maxRecDepth 16000 in
theorem f2_X9_nextOnRail_ok (E : kx_E) {av : List Value} {M : kx_M} (h : (f2_X9_nextOnRail E av M).1) : c2t_X9_nextOnRail E av M 0 0 (fun v M1 => v.toList = (f2_X9_nextOnRail E av M).2.1 ∧ M1 = (f2_X9_nextOnRail E av M).2.2) := by
  revert h
  unfold f2_X9_nextOnRail
  split
  · rename_i m
    intro h
    obtain ⟨h1, t, h2, h3, h4, h5⟩ := h
    have hr : rf M 206 m = t := by unfold rf; rw [h2]; rfl
    rw [hr]
    unfold vNr
    refine en_X9_nextOnRail E (Nat.le_of_ble_eq_true rfl) (fun G hG => kx_run_ok hG (kx_in [8]) 60 _ _ _ _ _ _ ?_)
    simp only [kx_run_s, kx_run_z, kx_in, kx_beq, decide_true, decide_false, cond_true, cond_false, t_push, t_il, t_ll, t_al, t_is, t_ls, t_as, t_inc, t_bin, t_dv, t_lbin, t_lcmp, t_itl, t_dup, t_pop, t_dupx, t_go, t_gk, cutL, t_if, t_ic, t_nul, t_acmp, t_gI, t_gR, t_pI, t_pZ, t_pR, t_new, t_nwa, t_ial, t_ias, t_aln, t_cst, t_sln, t_sld, t_iret, t_zret, t_lret, t_aret, t_vret, t_no, t_call, t_fun, t_sw, sw_to0, t_oin, t_mm, t_qal, t_qas, t_qln, t_nwq, t_gcl, t_acp, lk, up1, cl1, up2, cl2, kx_c2, lv_args, kx_sum, kx_isr_r, kx_isr_n, kx_isr_v, kx_ex_r, kx_ex_n, kx_ex_v, kx_ex2_r, kx_ex2_n, kx_ex2_v, va_rf_s, va_rf_n, Value.ref.injEq, reduceCtorEq, exists_eq_left', exists_eq_left, exists_eq', exists_eq, true_and, and_true, false_and, and_false, List.length_cons, List.length_nil, List.take_succ_cons, List.take_zero, List.drop_succ_cons, List.drop_zero, List.reverse_cons, List.reverse_nil, List.nil_append, List.cons_append, List.append_nil, List.getElem?_cons_zero, List.getElem?_cons_succ, List.map_cons, List.map_nil, List.sum_cons, List.sum_nil, kx_cat_i, kx_cat_r, kx_cat_n, kx_cat_l, kx_cat_v, Nat.reduceAdd, Nat.reduceSub, Nat.reduceEqDiff, Nat.reduceLeDiff, Nat.reduceMul, Nat.reduceLT, Nat.add_zero, Nat.zero_add, Nat.sub_zero, Nat.sub_self, Nat.le_refl, Nat.zero_le, ↓reduceIte, not_true_eq_false, not_false_eq_true, or_true, true_or, or_false, false_or, Option.some.injEq, ne_eq, implies_true, forall_const, forall_eq', forall_eq, and_self, or_self, Bool.or_true, Bool.or_false, Bool.true_or, Bool.false_or, Bool.and_true, Bool.and_false, Bool.true_and, Bool.false_and, Option.toList_some, Option.toList_none, Nat.succ_ne_zero, false_implies, true_implies, kx_l0, kd_sI, kd_sR, kd_sA, kd_sL, fI_sI_eq, fI_sI_ne, fR_sI, aI_sI, mL_sI, ln_sI, fR_sR_eq, fR_sR_ne, fI_sR, aI_sR, mL_sR, ln_sR, fI_sA, fR_sA, mL_sA, ln_sA, fI_sL, fR_sL, aI_sL, ln_sL, lo_X9_nextOnRail_0, lo_X9_nextOnRail_1, lo_X9_nextOnRail_2, lo_X9_nextOnRail_5, lo_X9_nextOnRail_6, lo_X9_nextOnRail_7, lo_X9_nextOnRail_8, lo_X9_nextOnRail_9, lo_X9_nextOnRail_10, lo_X9_nextOnRail_13, lo_X9_nextOnRail_16, lo_X9_nextOnRail_19, lo_X9_nextOnRail_20, lo_X9_nextOnRail_23, lo_X9_nextOnRail_24, lo_X9_nextOnRail_27, lo_X9_nextOnRail_30, lo_X9_nextOnRail_33, lo_X9_nextOnRail_36, lo_X9_nextOnRail_38, lo_X9_nextOnRail_40, lo_X9_nextOnRail_41, lo_X9_nextOnRail_44, lo_X9_nextOnRail_46, lo_X9_nextOnRail_47, lo_X9_nextOnRail_50, lo_X9_nextOnRail_51, lo_X9_nextOnRail_52, lo_X9_nextOnRail_54, lo_X9_nextOnRail_55, lo_X9_nextOnRail_58, lo_X9_nextOnRail_61, lo_X9_nextOnRail_62, f2_Jx4a65c_size_8abf5, f2_Jx4a65c_get_915e3]
    have lp : ∀ (rest done : List Nat) (s : Nat × Nat × Int32), mL M t = done ++ rest → s = done.foldl (vNr1 M) (0, 0, 10000) → s.1 = done.length → G 0 0 8 [(0, .ref m), (1, .int (nI s.2.1)), (2, .int s.2.2), (3, .int (nI done.length))] [] M := by
      intro rest
      induction rest with
      | nil =>
        intro done s hd hf hi
        rw [List.append_nil] at hd
        have hle := lend h4
        rw [hd] at hle
        refine kx_run_ok hG (kx_in [8]) 60 _ _ _ _ _ _ ?_
        simp only [kx_run_s, kx_run_z, kx_in, kx_beq, decide_true, decide_false, cond_true, cond_false, t_push, t_il, t_ll, t_al, t_is, t_ls, t_as, t_inc, t_bin, t_dv, t_lbin, t_lcmp, t_itl, t_dup, t_pop, t_dupx, t_go, t_gk, cutL, t_if, t_ic, t_nul, t_acmp, t_gI, t_gR, t_pI, t_pZ, t_pR, t_new, t_nwa, t_ial, t_ias, t_aln, t_cst, t_sln, t_sld, t_iret, t_zret, t_lret, t_aret, t_vret, t_no, t_call, t_fun, t_sw, sw_to0, t_oin, t_mm, t_qal, t_qas, t_qln, t_nwq, t_gcl, t_acp, lk, up1, cl1, up2, cl2, kx_c2, lv_args, kx_sum, kx_isr_r, kx_isr_n, kx_isr_v, kx_ex_r, kx_ex_n, kx_ex_v, kx_ex2_r, kx_ex2_n, kx_ex2_v, va_rf_s, va_rf_n, Value.ref.injEq, reduceCtorEq, exists_eq_left', exists_eq_left, exists_eq', exists_eq, true_and, and_true, false_and, and_false, List.length_cons, List.length_nil, List.take_succ_cons, List.take_zero, List.drop_succ_cons, List.drop_zero, List.reverse_cons, List.reverse_nil, List.nil_append, List.cons_append, List.append_nil, List.getElem?_cons_zero, List.getElem?_cons_succ, List.map_cons, List.map_nil, List.sum_cons, List.sum_nil, kx_cat_i, kx_cat_r, kx_cat_n, kx_cat_l, kx_cat_v, Nat.reduceAdd, Nat.reduceSub, Nat.reduceEqDiff, Nat.reduceLeDiff, Nat.reduceMul, Nat.reduceLT, Nat.add_zero, Nat.zero_add, Nat.sub_zero, Nat.sub_self, Nat.le_refl, Nat.zero_le, ↓reduceIte, not_true_eq_false, not_false_eq_true, or_true, true_or, or_false, false_or, Option.some.injEq, ne_eq, implies_true, forall_const, forall_eq', forall_eq, and_self, or_self, Bool.or_true, Bool.or_false, Bool.true_or, Bool.false_or, Bool.and_true, Bool.and_false, Bool.true_and, Bool.false_and, Option.toList_some, Option.toList_none, Nat.succ_ne_zero, false_implies, true_implies, kx_l0, kd_sI, kd_sR, kd_sA, kd_sL, fI_sI_eq, fI_sI_ne, fR_sI, aI_sI, mL_sI, ln_sI, fR_sR_eq, fR_sR_ne, fI_sR, aI_sR, mL_sR, ln_sR, fI_sA, fR_sA, mL_sA, ln_sA, fI_sL, fR_sL, aI_sL, ln_sL, lo_X9_nextOnRail_0, lo_X9_nextOnRail_1, lo_X9_nextOnRail_2, lo_X9_nextOnRail_5, lo_X9_nextOnRail_6, lo_X9_nextOnRail_7, lo_X9_nextOnRail_8, lo_X9_nextOnRail_9, lo_X9_nextOnRail_10, lo_X9_nextOnRail_13, lo_X9_nextOnRail_16, lo_X9_nextOnRail_19, lo_X9_nextOnRail_20, lo_X9_nextOnRail_23, lo_X9_nextOnRail_24, lo_X9_nextOnRail_27, lo_X9_nextOnRail_30, lo_X9_nextOnRail_33, lo_X9_nextOnRail_36, lo_X9_nextOnRail_38, lo_X9_nextOnRail_40, lo_X9_nextOnRail_41, lo_X9_nextOnRail_44, lo_X9_nextOnRail_46, lo_X9_nextOnRail_47, lo_X9_nextOnRail_50, lo_X9_nextOnRail_51, lo_X9_nextOnRail_52, lo_X9_nextOnRail_54, lo_X9_nextOnRail_55, lo_X9_nextOnRail_58, lo_X9_nextOnRail_61, lo_X9_nextOnRail_62, f2_Jx4a65c_size_8abf5, f2_Jx4a65c_get_915e3, hd, hle, h1, h2, h3]
        rw [hf]
      | cons o rest ih =>
        intro done s hd hf hi
        obtain ⟨c1, c2, c3⟩ := lcond hd h4
        have c4 := lget hd h4
        have hmem : o ∈ mL M t := by rw [hd]; exact List.mem_append_right _ List.mem_cons_self
        obtain ⟨k1, b, k2, k3, -⟩ := h5 o hmem
        have hb : rf M 180 o = b := by unfold rf; rw [k2]; rfl
        have hd' : mL M t = (done ++ [o]) ++ rest := by rw [hd, List.append_assoc]; rfl
        have hn := ih (done ++ [o]) (vNr1 M s o) hd' (by rw [List.foldl_append, ← hf]; rfl) (by rw [List.length_append, vNr1_i, hi]; rfl)
        rw [← lsucc done o] at hn
        unfold vNr1 at hn
        rw [hb] at hn
        refine kx_run_ok hG (kx_in [8]) 60 _ _ _ _ _ _ ?_
        simp only [kx_run_s, kx_run_z, kx_in, kx_beq, decide_true, decide_false, cond_true, cond_false, t_push, t_il, t_ll, t_al, t_is, t_ls, t_as, t_inc, t_bin, t_dv, t_lbin, t_lcmp, t_itl, t_dup, t_pop, t_dupx, t_go, t_gk, cutL, t_if, t_ic, t_nul, t_acmp, t_gI, t_gR, t_pI, t_pZ, t_pR, t_new, t_nwa, t_ial, t_ias, t_aln, t_cst, t_sln, t_sld, t_iret, t_zret, t_lret, t_aret, t_vret, t_no, t_call, t_fun, t_sw, sw_to0, t_oin, t_mm, t_qal, t_qas, t_qln, t_nwq, t_gcl, t_acp, lk, up1, cl1, up2, cl2, kx_c2, lv_args, kx_sum, kx_isr_r, kx_isr_n, kx_isr_v, kx_ex_r, kx_ex_n, kx_ex_v, kx_ex2_r, kx_ex2_n, kx_ex2_v, va_rf_s, va_rf_n, Value.ref.injEq, reduceCtorEq, exists_eq_left', exists_eq_left, exists_eq', exists_eq, true_and, and_true, false_and, and_false, List.length_cons, List.length_nil, List.take_succ_cons, List.take_zero, List.drop_succ_cons, List.drop_zero, List.reverse_cons, List.reverse_nil, List.nil_append, List.cons_append, List.append_nil, List.getElem?_cons_zero, List.getElem?_cons_succ, List.map_cons, List.map_nil, List.sum_cons, List.sum_nil, kx_cat_i, kx_cat_r, kx_cat_n, kx_cat_l, kx_cat_v, Nat.reduceAdd, Nat.reduceSub, Nat.reduceEqDiff, Nat.reduceLeDiff, Nat.reduceMul, Nat.reduceLT, Nat.add_zero, Nat.zero_add, Nat.sub_zero, Nat.sub_self, Nat.le_refl, Nat.zero_le, ↓reduceIte, not_true_eq_false, not_false_eq_true, or_true, true_or, or_false, false_or, Option.some.injEq, ne_eq, implies_true, forall_const, forall_eq', forall_eq, and_self, or_self, Bool.or_true, Bool.or_false, Bool.true_or, Bool.false_or, Bool.and_true, Bool.and_false, Bool.true_and, Bool.false_and, Option.toList_some, Option.toList_none, Nat.succ_ne_zero, false_implies, true_implies, kx_l0, kd_sI, kd_sR, kd_sA, kd_sL, fI_sI_eq, fI_sI_ne, fR_sI, aI_sI, mL_sI, ln_sI, fR_sR_eq, fR_sR_ne, fI_sR, aI_sR, mL_sR, ln_sR, fI_sA, fR_sA, mL_sA, ln_sA, fI_sL, fR_sL, aI_sL, ln_sL, lo_X9_nextOnRail_0, lo_X9_nextOnRail_1, lo_X9_nextOnRail_2, lo_X9_nextOnRail_5, lo_X9_nextOnRail_6, lo_X9_nextOnRail_7, lo_X9_nextOnRail_8, lo_X9_nextOnRail_9, lo_X9_nextOnRail_10, lo_X9_nextOnRail_13, lo_X9_nextOnRail_16, lo_X9_nextOnRail_19, lo_X9_nextOnRail_20, lo_X9_nextOnRail_23, lo_X9_nextOnRail_24, lo_X9_nextOnRail_27, lo_X9_nextOnRail_30, lo_X9_nextOnRail_33, lo_X9_nextOnRail_36, lo_X9_nextOnRail_38, lo_X9_nextOnRail_40, lo_X9_nextOnRail_41, lo_X9_nextOnRail_44, lo_X9_nextOnRail_46, lo_X9_nextOnRail_47, lo_X9_nextOnRail_50, lo_X9_nextOnRail_51, lo_X9_nextOnRail_52, lo_X9_nextOnRail_54, lo_X9_nextOnRail_55, lo_X9_nextOnRail_58, lo_X9_nextOnRail_61, lo_X9_nextOnRail_62, f2_Jx4a65c_size_8abf5, f2_Jx4a65c_get_915e3, h1, h2, h3, c1, c2, c3, c4, k1, k2, k3]
        refine ⟨fun z => ?_, fun z => ⟨fun y => ?_, fun y => ?_⟩⟩
        · rw [if_pos z] at hn
          exact hn
        · rw [if_neg z, if_pos y] at hn
          exact hn
        · rw [if_neg z, if_neg y, hi] at hn
          exact hn
    exact lp (mL M t) [] (0, 0, 10000) rfl rfl rfl
  · intro h; exact h.elim
theorem f2_X9_nextOnRail_rc (E : kx_E) {av : List Value} {M : kx_M} (h : (f2_X9_nextOnRail E av M).1) : ∃ (a : Nat) (as : List Value), av = .ref a :: as ∧ kd M a = 11 := by
  unfold f2_X9_nextOnRail at h
  split at h
  · exact ⟨_, _, rfl, h.1⟩
  · exact h.elim

set_option maxRecDepth 16000 in
theorem f2_X9_unload_ok (E : kx_E) {av : List Value} {M : kx_M} (h : (f2_X9_unload E av M).1) : c2t_X9_unload E av M 0 0 (fun v M1 => v.toList = (f2_X9_unload E av M).2.1 ∧ M1 = (f2_X9_unload E av M).2.2) := by
  revert h
  unfold f2_X9_unload
  split
  · rename_i m q
    intro h
    obtain ⟨h1, h2, b, h3, h4, s, h5, h6⟩ := h
    have hb : rf M 180 q = b := by unfold rf; rw [h3]; rfl
    have hs : rf M 22 b = s := by unfold rf; rw [h5]; rfl
    unfold eUnload
    rw [hb, hs]
    refine en_X9_unload E (Nat.le_of_ble_eq_true rfl) (fun G hG => kx_run_ok hG (kx_in []) 60 _ _ _ _ _ _ ?_)
    simp only [kx_run_s, kx_run_z, kx_in, kx_beq, decide_true, decide_false, cond_true, cond_false, t_push, t_il, t_ll, t_al, t_is, t_ls, t_as, t_inc, t_bin, t_dv, t_lbin, t_lcmp, t_itl, t_dup, t_pop, t_dupx, t_go, t_gk, cutL, t_if, t_ic, t_nul, t_acmp, t_gI, t_gR, t_pI, t_pZ, t_pR, t_new, t_nwa, t_ial, t_ias, t_aln, t_cst, t_sln, t_sld, t_iret, t_zret, t_lret, t_aret, t_vret, t_no, t_call, t_fun, t_sw, sw_to0, t_oin, t_mm, t_qal, t_qas, t_qln, t_nwq, t_gcl, t_acp, lk, up1, cl1, up2, cl2, kx_c2, lv_args, kx_sum, kx_isr_r, kx_isr_n, kx_isr_v, kx_ex_r, kx_ex_n, kx_ex_v, kx_ex2_r, kx_ex2_n, kx_ex2_v, va_rf_s, va_rf_n, Value.ref.injEq, reduceCtorEq, exists_eq_left', exists_eq_left, exists_eq', exists_eq, true_and, and_true, false_and, and_false, List.length_cons, List.length_nil, List.take_succ_cons, List.take_zero, List.drop_succ_cons, List.drop_zero, List.reverse_cons, List.reverse_nil, List.nil_append, List.cons_append, List.append_nil, List.getElem?_cons_zero, List.getElem?_cons_succ, List.map_cons, List.map_nil, List.sum_cons, List.sum_nil, kx_cat_i, kx_cat_r, kx_cat_n, kx_cat_l, kx_cat_v, Nat.reduceAdd, Nat.reduceSub, Nat.reduceEqDiff, Nat.reduceLeDiff, Nat.reduceMul, Nat.reduceLT, Nat.add_zero, Nat.zero_add, Nat.sub_zero, Nat.sub_self, Nat.le_refl, Nat.zero_le, ↓reduceIte, not_true_eq_false, not_false_eq_true, or_true, true_or, or_false, false_or, Option.some.injEq, ne_eq, implies_true, forall_const, forall_eq', forall_eq, and_self, or_self, Bool.or_true, Bool.or_false, Bool.true_or, Bool.false_or, Bool.and_true, Bool.and_false, Bool.true_and, Bool.false_and, Option.toList_some, Option.toList_none, Nat.succ_ne_zero, false_implies, true_implies, kx_l0, kd_sI, kd_sR, kd_sA, kd_sL, fI_sI_eq, fI_sI_ne, fR_sI, aI_sI, mL_sI, ln_sI, fR_sR_eq, fR_sR_ne, fI_sR, aI_sR, mL_sR, ln_sR, fI_sA, fR_sA, mL_sA, ln_sA, fI_sL, fR_sL, aI_sL, ln_sL, lo_X9_unload_0, lo_X9_unload_1, lo_X9_unload_4, lo_X9_unload_5, lo_X9_unload_6, lo_X9_unload_9, lo_X9_unload_10, lo_X9_unload_13, lo_X9_unload_14, lo_X9_unload_17, lo_X9_unload_18, lo_X9_unload_21, lo_X9_unload_24, lo_X9_unload_25, lo_X9_unload_26, lo_X9_unload_29, lo_X9_unload_30, lo_X9_unload_33, lo_X9_unload_34, lo_X9_unload_37, lo_X9_unload_40, lo_X9_unload_41, lo_X9_unload_44, lo_X9_unload_45, lo_X9_unload_48, lo_X9_unload_49, lo_X9_unload_52, lo_X9_unload_53, lo_X9_unload_56, lo_X9_unload_59, lo_X9_unload_60, lo_X9_unload_63, lo_X9_unload_64, lo_X9_unload_67, f2_X1_of, f2_X1_put, h1, h2, h3, h4, h5, h6, bcv_eq, ePut_eq]
    refine ⟨fun z => ?_, fun z => ⟨fun y => ?_, fun y => ?_⟩⟩
    · rw [if_pos z]
    · rw [if_neg z, if_pos y]
    · rw [if_neg z, if_neg y]
  · intro h; exact h.elim
theorem f2_X9_unload_rc (E : kx_E) {av : List Value} {M : kx_M} (h : (f2_X9_unload E av M).1) : ∃ (a : Nat) (as : List Value), av = .ref a :: as ∧ kd M a = 11 := by
  unfold f2_X9_unload at h
  split at h
  · exact ⟨_, _, rfl, h.1⟩
  · exact h.elim

theorem kx_bcv0 (M : kx_M) (s : Nat) : (if (0 : Int32) ≤ 0 ∧ (0 : Int32) < 3 then aI M s (0 : Int32).toNatClampNeg else 0) = aI M s 0 := if_pos (by decide)
theorem kx_bcv1 (M : kx_M) (s : Nat) : (if (0 : Int32) ≤ 1 ∧ (1 : Int32) < 3 then aI M s (1 : Int32).toNatClampNeg else 0) = aI M s 1 := if_pos (by decide)
theorem kx_bcv2 (M : kx_M) (s : Nat) : (if (0 : Int32) ≤ 2 ∧ (2 : Int32) < 3 then aI M s (2 : Int32).toNatClampNeg else 0) = aI M s 2 := if_pos (by decide)
theorem kx_put0 (M : kx_M) (s : Nat) (x : Int32) : (if (0 : Int32) ≤ 0 ∧ (0 : Int32) < 3 then sA M s (0 : Int32).toNatClampNeg x else M) = sA M s 0 x := if_pos (by decide)
theorem kx_put1 (M : kx_M) (s : Nat) (x : Int32) : (if (0 : Int32) ≤ 1 ∧ (1 : Int32) < 3 then sA M s (1 : Int32).toNatClampNeg x else M) = sA M s 1 x := if_pos (by decide)
theorem kx_put2 (M : kx_M) (s : Nat) (x : Int32) : (if (0 : Int32) ≤ 2 ∧ (2 : Int32) < 3 then sA M s (2 : Int32).toNatClampNeg x else M) = sA M s 2 x := if_pos (by decide)
theorem aI_sA_nj (M : kx_M) (a i j : Nat) (x : Int32) (h : j ≠ i) : aI (sA M a i x) a j = aI M a j := if_neg (fun z => h z.2)
set_option maxRecDepth 16000 in
theorem f2_X9_bindsOne_ok (E : kx_E) {av : List Value} {M : kx_M} (h : (f2_X9_bindsOne E av M).1) : c2t_X9_bindsOne E av M 0 0 (fun v M1 => v.toList = (f2_X9_bindsOne E av M).2.1 ∧ M1 = (f2_X9_bindsOne E av M).2.2) := by
  revert h
  unfold f2_X9_bindsOne
  split
  · rename_i s
    intro h
    have h1 : kd M s = 3 := h
    unfold eBindOne vZero vOne vTwo vMin
    refine en_X9_bindsOne E (Nat.le_of_ble_eq_true rfl) (fun G hG => kx_run_ok hG (kx_in []) 120 _ _ _ _ _ _ ?_)
    simp only [kx_run_s, kx_run_z, kx_in, kx_beq, decide_true, decide_false, cond_true, cond_false, t_push, t_il, t_ll, t_al, t_is, t_ls, t_as, t_inc, t_bin, t_dv, t_lbin, t_lcmp, t_itl, t_dup, t_pop, t_dupx, t_go, t_gk, cutL, t_if, t_ic, t_nul, t_acmp, t_gI, t_gR, t_pI, t_pZ, t_pR, t_new, t_nwa, t_ial, t_ias, t_aln, t_cst, t_sln, t_sld, t_iret, t_zret, t_lret, t_aret, t_vret, t_no, t_call, t_fun, t_sw, sw_to0, t_oin, t_mm, t_qal, t_qas, t_qln, t_nwq, t_gcl, t_acp, lk, up1, cl1, up2, cl2, kx_c2, lv_args, kx_sum, kx_isr_r, kx_isr_n, kx_isr_v, kx_ex_r, kx_ex_n, kx_ex_v, kx_ex2_r, kx_ex2_n, kx_ex2_v, va_rf_s, va_rf_n, Value.ref.injEq, reduceCtorEq, exists_eq_left', exists_eq_left, exists_eq', exists_eq, true_and, and_true, false_and, and_false, List.length_cons, List.length_nil, List.take_succ_cons, List.take_zero, List.drop_succ_cons, List.drop_zero, List.reverse_cons, List.reverse_nil, List.nil_append, List.cons_append, List.append_nil, List.getElem?_cons_zero, List.getElem?_cons_succ, List.map_cons, List.map_nil, List.sum_cons, List.sum_nil, kx_cat_i, kx_cat_r, kx_cat_n, kx_cat_l, kx_cat_v, Nat.reduceAdd, Nat.reduceSub, Nat.reduceEqDiff, Nat.reduceLeDiff, Nat.reduceMul, Nat.reduceLT, Nat.add_zero, Nat.zero_add, Nat.sub_zero, Nat.sub_self, Nat.le_refl, Nat.zero_le, ↓reduceIte, not_true_eq_false, not_false_eq_true, or_true, true_or, or_false, false_or, Option.some.injEq, ne_eq, implies_true, forall_const, forall_eq', forall_eq, and_self, or_self, Bool.or_true, Bool.or_false, Bool.true_or, Bool.false_or, Bool.and_true, Bool.and_false, Bool.true_and, Bool.false_and, Option.toList_some, Option.toList_none, Nat.succ_ne_zero, false_implies, true_implies, kx_l0, kd_sI, kd_sR, kd_sA, kd_sL, fI_sI_eq, fI_sI_ne, fR_sI, aI_sI, mL_sI, ln_sI, fR_sR_eq, fR_sR_ne, fI_sR, aI_sR, mL_sR, ln_sR, fI_sA, fR_sA, mL_sA, ln_sA, fI_sL, fR_sL, aI_sL, ln_sL, lo_X9_bindsOne_0, lo_X9_bindsOne_1, lo_X9_bindsOne_2, lo_X9_bindsOne_3, lo_X9_bindsOne_6, lo_X9_bindsOne_9, lo_X9_bindsOne_10, lo_X9_bindsOne_11, lo_X9_bindsOne_12, lo_X9_bindsOne_13, lo_X9_bindsOne_16, lo_X9_bindsOne_19, lo_X9_bindsOne_20, lo_X9_bindsOne_21, lo_X9_bindsOne_22, lo_X9_bindsOne_23, lo_X9_bindsOne_24, lo_X9_bindsOne_25, lo_X9_bindsOne_26, lo_X9_bindsOne_27, lo_X9_bindsOne_28, lo_X9_bindsOne_29, lo_X9_bindsOne_30, lo_X9_bindsOne_31, lo_X9_bindsOne_32, lo_X9_bindsOne_33, lo_X9_bindsOne_34, lo_X9_bindsOne_35, lo_X9_bindsOne_36, lo_X9_bindsOne_37, lo_X9_bindsOne_40, lo_X9_bindsOne_43, lo_X9_bindsOne_44, lo_X9_bindsOne_45, lo_X9_bindsOne_46, lo_X9_bindsOne_47, lo_X9_bindsOne_48, lo_X9_bindsOne_49, lo_X9_bindsOne_52, lo_X9_bindsOne_53, lo_X9_bindsOne_54, lo_X9_bindsOne_57, lo_X9_bindsOne_58, lo_X9_bindsOne_59, lo_X9_bindsOne_60, lo_X9_bindsOne_61, lo_X9_bindsOne_64, lo_X9_bindsOne_65, lo_X9_bindsOne_66, lo_X9_bindsOne_69, lo_X9_bindsOne_70, lo_X9_bindsOne_71, lo_X9_bindsOne_72, lo_X9_bindsOne_73, lo_X9_bindsOne_76, lo_X9_bindsOne_77, lo_X9_bindsOne_78, lo_X9_bindsOne_81, lo_X9_bindsOne_82, f2_X1_of, f2_X1_put, h1, kx_bcv0, kx_bcv1, kx_bcv2, kx_put0, kx_put1, kx_put2, aI_sA_nj, aI_sA_eq]
    refine ⟨fun z => ?_, fun z => ?_⟩
    · have z' := Int32.not_lt.mpr z
      rw [if_neg z', if_neg z']
      exact ⟨rfl, rfl⟩
    · have z' := Int32.not_le.mp z
      rw [if_pos z', if_pos z']
      exact ⟨rfl, rfl⟩
  · intro h; exact h.elim

set_option maxRecDepth 16000 in
theorem f2_X9_fewestLamps_ok (E : kx_E) {av : List Value} {M : kx_M} (h : (f2_X9_fewestLamps E av M).1) : c2t_X9_fewestLamps E av M 0 0 (fun v M1 => v.toList = (f2_X9_fewestLamps E av M).2.1 ∧ M1 = (f2_X9_fewestLamps E av M).2.2) := by
  revert h
  unfold f2_X9_fewestLamps
  split
  · rename_i m c l
    intro h
    have h1 : kd M m = 11 := h
    unfold vFew
    have b0 : ((3 : Int32) < 0) = False := by decide
    have b1 : ((3 : Int32) < 0 + 1) = False := by decide
    have b2 : ((3 : Int32) < 0 + 1 + 1) = False := by decide
    have b3 : ((3 : Int32) < 0 + 1 + 1 + 1) = False := by decide
    have b4 : ((3 : Int32) < 0 + 1 + 1 + 1 + 1) = True := by decide
    refine en_X9_fewestLamps E (Nat.le_of_ble_eq_true rfl) (fun G hG => kx_run_ok hG (kx_in []) 120 _ _ _ _ _ _ ?_)
    simp only [kx_run_s, kx_run_z, kx_in, kx_beq, decide_true, decide_false, cond_true, cond_false, t_push, t_il, t_ll, t_al, t_is, t_ls, t_as, t_inc, t_bin, t_dv, t_lbin, t_lcmp, t_itl, t_dup, t_pop, t_dupx, t_go, t_gk, cutL, t_if, t_ic, t_nul, t_acmp, t_gI, t_gR, t_pI, t_pZ, t_pR, t_new, t_nwa, t_ial, t_ias, t_aln, t_cst, t_sln, t_sld, t_iret, t_zret, t_lret, t_aret, t_vret, t_no, t_call, t_fun, t_sw, sw_to0, t_oin, t_mm, t_qal, t_qas, t_qln, t_nwq, t_gcl, t_acp, lk, up1, cl1, up2, cl2, kx_c2, lv_args, kx_sum, kx_isr_r, kx_isr_n, kx_isr_v, kx_ex_r, kx_ex_n, kx_ex_v, kx_ex2_r, kx_ex2_n, kx_ex2_v, va_rf_s, va_rf_n, Value.ref.injEq, reduceCtorEq, exists_eq_left', exists_eq_left, exists_eq', exists_eq, true_and, and_true, false_and, and_false, List.length_cons, List.length_nil, List.take_succ_cons, List.take_zero, List.drop_succ_cons, List.drop_zero, List.reverse_cons, List.reverse_nil, List.nil_append, List.cons_append, List.append_nil, List.getElem?_cons_zero, List.getElem?_cons_succ, List.map_cons, List.map_nil, List.sum_cons, List.sum_nil, kx_cat_i, kx_cat_r, kx_cat_n, kx_cat_l, kx_cat_v, Nat.reduceAdd, Nat.reduceSub, Nat.reduceEqDiff, Nat.reduceLeDiff, Nat.reduceMul, Nat.reduceLT, Nat.add_zero, Nat.zero_add, Nat.sub_zero, Nat.sub_self, Nat.le_refl, Nat.zero_le, ↓reduceIte, not_true_eq_false, not_false_eq_true, or_true, true_or, or_false, false_or, Option.some.injEq, ne_eq, implies_true, forall_const, forall_eq', forall_eq, and_self, or_self, Bool.or_true, Bool.or_false, Bool.true_or, Bool.false_or, Bool.and_true, Bool.and_false, Bool.true_and, Bool.false_and, Option.toList_some, Option.toList_none, Nat.succ_ne_zero, false_implies, true_implies, kx_l0, kd_sI, kd_sR, kd_sA, kd_sL, fI_sI_eq, fI_sI_ne, fR_sI, aI_sI, mL_sI, ln_sI, fR_sR_eq, fR_sR_ne, fI_sR, aI_sR, mL_sR, ln_sR, fI_sA, fR_sA, mL_sA, ln_sA, fI_sL, fR_sL, aI_sL, ln_sL, lo_X9_fewestLamps_0, lo_X9_fewestLamps_1, lo_X9_fewestLamps_2, lo_X9_fewestLamps_3, lo_X9_fewestLamps_4, lo_X9_fewestLamps_7, lo_X9_fewestLamps_8, lo_X9_fewestLamps_11, lo_X9_fewestLamps_12, lo_X9_fewestLamps_13, lo_X9_fewestLamps_14, lo_X9_fewestLamps_15, lo_X9_fewestLamps_16, lo_X9_fewestLamps_19, lo_X9_fewestLamps_22, lo_X9_fewestLamps_23, lo_X9_fewestLamps_24, lo_X9_fewestLamps_27, lo_X9_fewestLamps_30, lo_X9_fewestLamps_31, f2_X9_sumAsked, h1, b0, b1, b2, b3, b4]
    refine ⟨fun z => ⟨fun y => ⟨fun x => ⟨fun w => ?_, fun w => ?_⟩, fun x => ?_⟩, fun y => ?_⟩, fun z => ?_⟩
    · rw [if_pos z, if_pos y, if_pos x, if_pos w]
    · rw [if_pos z, if_pos y, if_pos x, if_neg w]
    · rw [if_pos z, if_pos y, if_neg x]
    · rw [if_pos z, if_neg y]
    · rw [if_neg z]
  · intro h; exact h.elim
theorem f2_X9_fewestLamps_rc (E : kx_E) {av : List Value} {M : kx_M} (h : (f2_X9_fewestLamps E av M).1) : ∃ (a : Nat) (as : List Value), av = .ref a :: as ∧ kd M a = 11 := by
  unfold f2_X9_fewestLamps at h
  split at h
  · exact ⟨_, _, rfl, h⟩
  · exact h.elim

set_option maxRecDepth 16000 in
theorem f2_X9_sale_ok (E : kx_E) {av : List Value} {M : kx_M} (h : (f2_X9_sale E av M).1) : c2t_X9_sale E av M 0 0 (fun v M1 => v.toList = (f2_X9_sale E av M).2.1 ∧ M1 = (f2_X9_sale E av M).2.2) := by
  revert h
  unfold f2_X9_sale
  split
  · rename_i m k x
    intro h
    obtain ⟨h1, ⟨t, s, h2, h3, h4, h5, h6, h7, h8, h9, h10, h11⟩, h12, h13⟩ := h
    have hr : rf M 207 m = t := by unfold rf; rw [h2]; rfl
    have he : el M 207 m (Int32.ofNat (mL M (rf M 207 m)).length - 1 - k) = s := by unfold el; rw [hr, h8]; rfl
    rw [he]
    have e4 : (k < 0) = False := eq_false (Int32.not_lt.mpr h4)
    have e12 : (x < 0) = False := eq_false (Int32.not_lt.mpr h12)
    have e13 : (4 < x) = False := eq_false (Int32.not_lt.mpr h13)
    have e10 := eq_true h10
    have e11 := eq_true h11
    refine en_X9_sale E (Nat.le_of_ble_eq_true rfl) (fun G hG => kx_run_ok hG (kx_in []) 120 _ _ _ _ _ _ ?_)
    simp only [kx_run_s, kx_run_z, kx_in, kx_beq, decide_true, decide_false, cond_true, cond_false, t_push, t_il, t_ll, t_al, t_is, t_ls, t_as, t_inc, t_bin, t_dv, t_lbin, t_lcmp, t_itl, t_dup, t_pop, t_dupx, t_go, t_gk, cutL, t_if, t_ic, t_nul, t_acmp, t_gI, t_gR, t_pI, t_pZ, t_pR, t_new, t_nwa, t_ial, t_ias, t_aln, t_cst, t_sln, t_sld, t_iret, t_zret, t_lret, t_aret, t_vret, t_no, t_call, t_fun, t_sw, sw_to0, t_oin, t_mm, t_qal, t_qas, t_qln, t_nwq, t_gcl, t_acp, lk, up1, cl1, up2, cl2, kx_c2, lv_args, kx_sum, kx_isr_r, kx_isr_n, kx_isr_v, kx_ex_r, kx_ex_n, kx_ex_v, kx_ex2_r, kx_ex2_n, kx_ex2_v, va_rf_s, va_rf_n, Value.ref.injEq, reduceCtorEq, exists_eq_left', exists_eq_left, exists_eq', exists_eq, true_and, and_true, false_and, and_false, List.length_cons, List.length_nil, List.take_succ_cons, List.take_zero, List.drop_succ_cons, List.drop_zero, List.reverse_cons, List.reverse_nil, List.nil_append, List.cons_append, List.append_nil, List.getElem?_cons_zero, List.getElem?_cons_succ, List.map_cons, List.map_nil, List.sum_cons, List.sum_nil, kx_cat_i, kx_cat_r, kx_cat_n, kx_cat_l, kx_cat_v, Nat.reduceAdd, Nat.reduceSub, Nat.reduceEqDiff, Nat.reduceLeDiff, Nat.reduceMul, Nat.reduceLT, Nat.add_zero, Nat.zero_add, Nat.sub_zero, Nat.sub_self, Nat.le_refl, Nat.zero_le, ↓reduceIte, not_true_eq_false, not_false_eq_true, or_true, true_or, or_false, false_or, Option.some.injEq, ne_eq, implies_true, forall_const, forall_eq', forall_eq, and_self, or_self, Bool.or_true, Bool.or_false, Bool.true_or, Bool.false_or, Bool.and_true, Bool.and_false, Bool.true_and, Bool.false_and, Option.toList_some, Option.toList_none, Nat.succ_ne_zero, false_implies, true_implies, kx_l0, kd_sI, kd_sR, kd_sA, kd_sL, fI_sI_eq, fI_sI_ne, fR_sI, aI_sI, mL_sI, ln_sI, fR_sR_eq, fR_sR_ne, fI_sR, aI_sR, mL_sR, ln_sR, fI_sA, fR_sA, mL_sA, ln_sA, fI_sL, fR_sL, aI_sL, ln_sL, lo_X9_sale_0, lo_X9_sale_1, lo_X9_sale_4, lo_X9_sale_5, lo_X9_sale_6, lo_X9_sale_9, lo_X9_sale_12, lo_X9_sale_15, lo_X9_sale_26, lo_X9_sale_27, lo_X9_sale_28, lo_X9_sale_29, lo_X9_sale_32, lo_X9_sale_35, lo_X9_sale_46, lo_X9_sale_47, lo_X9_sale_50, lo_X9_sale_51, lo_X9_sale_54, lo_X9_sale_57, lo_X9_sale_58, lo_X9_sale_59, lo_X9_sale_60, lo_X9_sale_61, lo_X9_sale_64, lo_X9_sale_67, lo_X9_sale_68, lo_X9_sale_71, f2_Jx4a65c_size_8abf5, f2_X9_isWithin, f2_Jx4a65c_get_915e3, f2_X7_numberOf, h1, h2, h3, h5, h6, h7, h8, h9, e4, e10, e11, vIn, kx_10, e12, e13]
  · intro h; exact h.elim
theorem f2_X9_sale_rc (E : kx_E) {av : List Value} {M : kx_M} (h : (f2_X9_sale E av M).1) : ∃ (a : Nat) (as : List Value), av = .ref a :: as ∧ kd M a = 11 := by
  unfold f2_X9_sale at h
  split at h
  · exact ⟨_, _, rfl, h.1⟩
  · exact h.elim
