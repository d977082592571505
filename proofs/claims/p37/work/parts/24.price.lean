set_option maxRecDepth 8000 in
theorem f2_X9_firstPriceOf_ok (E : kx_E) {av : List Value} {M : kx_M} (h : (f2_X9_firstPriceOf E av M).1) : c2t_X9_firstPriceOf E av M 0 0 (fun v M1 => v.toList = (f2_X9_firstPriceOf E av M).2.1 ∧ M1 = (f2_X9_firstPriceOf E av M).2.2) := by
  revert h
  unfold f2_X9_firstPriceOf
  split
  · rename_i m t
    intro h
    obtain ⟨h1, h2, r, bl, ol, g, h3, h4, h5, h6, h7, h8, h9, h10, h11, h12, h13, h14⟩ := h
    have r1 : rf M 209 m = r := by unfold rf; rw [h3]; rfl
    have r2 : rf M 204 m = bl := by unfold rf; rw [h5]; rfl
    have r3 : rf M 205 m = ol := by unfold rf; rw [h7]; rfl
    have e13 := eq_true h13
    have e14 : (∀ o ∈ mL M ol, kd M o = 8) = True := eq_true (fun o ho => (h14 o ho).1)
    unfold eAsk vTake1
    rw [r1, r2, r3]
    obtain ⟨s1, s2, s3, -⟩ := pSame_begin M r t (fI M 126 t) 1 bl ol
    obtain ⟨n1, n2, n3, -⟩ := pSame_next (r := r) (l := mL M ol) 5 _ (pSame_begin M r t (fI M 126 t) 1 bl ol)
    have e15 : (∀ o ∈ mL M ol, pOrder (eBegin M r t (fI M 126 t) 1 bl ol) o) = True := eq_true (fun o ho => by
      unfold pOrder; rw [s1, s3]; exact h14 o ho)
    refine en_X9_firstPriceOf E (Nat.le_of_ble_eq_true rfl) (fun G hG => kx_run_ok hG (kx_in []) 60 _ _ _ _ _ _ ?_)
    simp only [kx_run_s, kx_run_z, kx_in, kx_beq, decide_true, decide_false, cond_true, cond_false, t_push, t_il, t_ll, t_al, t_is, t_ls, t_as, t_inc, t_bin, t_dv, t_lbin, t_lcmp, t_itl, t_dup, t_pop, t_dupx, t_go, t_gk, cutL, t_if, t_ic, t_nul, t_acmp, t_gI, t_gR, t_pI, t_pZ, t_pR, t_new, t_nwa, t_ial, t_ias, t_aln, t_cst, t_sln, t_sld, t_iret, t_zret, t_lret, t_aret, t_vret, t_no, t_call, t_fun, t_sw, sw_to0, t_oin, t_mm, t_qal, t_qas, t_qln, t_nwq, t_gcl, t_acp, lk, up1, cl1, up2, cl2, kx_c2, lv_args, kx_sum, kx_isr_r, kx_isr_n, kx_isr_v, kx_ex_r, kx_ex_n, kx_ex_v, kx_ex2_r, kx_ex2_n, kx_ex2_v, va_rf_s, va_rf_n, Value.ref.injEq, reduceCtorEq, exists_eq_left', exists_eq_left, exists_eq', exists_eq, true_and, and_true, false_and, and_false, List.length_cons, List.length_nil, List.take_succ_cons, List.take_zero, List.drop_succ_cons, List.drop_zero, List.reverse_cons, List.reverse_nil, List.nil_append, List.cons_append, List.append_nil, List.getElem?_cons_zero, List.getElem?_cons_succ, List.map_cons, List.map_nil, List.sum_cons, List.sum_nil, kx_cat_i, kx_cat_r, kx_cat_n, kx_cat_l, kx_cat_v, Nat.reduceAdd, Nat.reduceSub, Nat.reduceEqDiff, Nat.reduceLeDiff, Nat.reduceMul, Nat.reduceLT, Nat.add_zero, Nat.zero_add, Nat.sub_zero, Nat.sub_self, Nat.le_refl, Nat.zero_le, ↓reduceIte, not_true_eq_false, not_false_eq_true, or_true, true_or, or_false, false_or, Option.some.injEq, ne_eq, implies_true, forall_const, forall_eq', forall_eq, and_self, or_self, Bool.or_true, Bool.or_false, Bool.true_or, Bool.false_or, Bool.and_true, Bool.and_false, Bool.true_and, Bool.false_and, Option.toList_some, Option.toList_none, Nat.succ_ne_zero, false_implies, true_implies, kx_l0, kd_sI, kd_sR, kd_sA, kd_sL, fI_sI_eq, fI_sI_ne, fR_sI, aI_sI, mL_sI, ln_sI, fR_sR_eq, fR_sR_ne, fI_sR, aI_sR, mL_sR, ln_sR, fI_sA, fR_sA, mL_sA, ln_sA, fI_sL, fR_sL, aI_sL, ln_sL, lo_X9_firstPriceOf_0, lo_X9_firstPriceOf_1, lo_X9_firstPriceOf_4, lo_X9_firstPriceOf_5, lo_X9_firstPriceOf_6, lo_X9_firstPriceOf_9, lo_X9_firstPriceOf_10, lo_X9_firstPriceOf_11, lo_X9_firstPriceOf_14, lo_X9_firstPriceOf_15, lo_X9_firstPriceOf_18, lo_X9_firstPriceOf_21, lo_X9_firstPriceOf_22, lo_X9_firstPriceOf_25, lo_X9_firstPriceOf_26, lo_X9_firstPriceOf_29, lo_X9_firstPriceOf_32, lo_X9_firstPriceOf_35, lo_X9_firstPriceOf_36, lo_X9_firstPriceOf_39, lo_X9_firstPriceOf_40, lo_X9_firstPriceOf_43, lo_X9_firstPriceOf_46, f2_X2_begin, f2_X2_nextTaker, h1, h2, h3, h4, h5, h6, h7, h8, h9, h10, h11, h12, e13, e14, e15, s1, s2, s3, n1, n2, n3]
    cases hq : (vNext r (mL M ol) 5 (eBegin M r t (fI M 126 t) 1 bl ol)).fst with
    | none => exact ⟨fun _ => rfl, fun z => absurd rfl z⟩
    | some q => exact ⟨fun z => (by cases z), fun _ => rfl⟩
  · intro h; exact h.elim
theorem f2_X9_firstPriceOf_rc (E : kx_E) {av : List Value} {M : kx_M} (h : (f2_X9_firstPriceOf E av M).1) : ∃ (a : Nat) (as : List Value), av = .ref a :: as ∧ kd M a = 11 := by
  unfold f2_X9_firstPriceOf at h
  split at h
  · exact ⟨_, _, rfl, h.1⟩
  · exact h.elim
set_option maxRecDepth 8000 in
theorem f2_X9_lowestPriceOf_ok (E : kx_E) {av : List Value} {M : kx_M} (h : (f2_X9_lowestPriceOf E av M).1) : c2t_X9_lowestPriceOf E av M 0 0 (fun v M1 => v.toList = (f2_X9_lowestPriceOf E av M).2.1 ∧ M1 = (f2_X9_lowestPriceOf E av M).2.2) := by
  revert h
  unfold f2_X9_lowestPriceOf
  split
  · rename_i m t
    intro h
    obtain ⟨h1, h2, r, bl, ol, g, h3, h4, h5, h6, h7, h8, h9, h10, h11, h12, h13, h14⟩ := h
    have r1 : rf M 209 m = r := by unfold rf; rw [h3]; rfl
    have r2 : rf M 204 m = bl := by unfold rf; rw [h5]; rfl
    have r3 : rf M 205 m = ol := by unfold rf; rw [h7]; rfl
    have e13 := eq_true h13
    have e14 : (∀ o ∈ mL M ol, kd M o = 8) = True := eq_true (fun o ho => (h14 o ho).1)
    have hS := pSame_begin M r t (fI M 126 t) 1 bl ol
    have hA : eAsk M m t = eBegin M r t (fI M 126 t) 1 bl ol := by unfold eAsk; rw [r1, r2, r3]
    rw [hA]
    refine en_X9_lowestPriceOf E (Nat.le_of_ble_eq_true rfl) (fun G hG => kx_run_ok hG (kx_in [26]) 60 _ _ _ _ _ _ ?_)
    simp only [kx_run_s, kx_run_z, kx_in, kx_beq, decide_true, decide_false, cond_true, cond_false, t_push, t_il, t_ll, t_al, t_is, t_ls, t_as, t_inc, t_bin, t_dv, t_lbin, t_lcmp, t_itl, t_dup, t_pop, t_dupx, t_go, t_gk, cutL, t_if, t_ic, t_nul, t_acmp, t_gI, t_gR, t_pI, t_pZ, t_pR, t_new, t_nwa, t_ial, t_ias, t_aln, t_cst, t_sln, t_sld, t_iret, t_zret, t_lret, t_aret, t_vret, t_no, t_call, t_fun, t_sw, sw_to0, t_oin, t_mm, t_qal, t_qas, t_qln, t_nwq, t_gcl, t_acp, lk, up1, cl1, up2, cl2, kx_c2, lv_args, kx_sum, kx_isr_r, kx_isr_n, kx_isr_v, kx_ex_r, kx_ex_n, kx_ex_v, kx_ex2_r, kx_ex2_n, kx_ex2_v, va_rf_s, va_rf_n, Value.ref.injEq, reduceCtorEq, exists_eq_left', exists_eq_left, exists_eq', exists_eq, true_and, and_true, false_and, and_false, List.length_cons, List.length_nil, List.take_succ_cons, List.take_zero, List.drop_succ_cons, List.drop_zero, List.reverse_cons, List.reverse_nil, List.nil_append, List.cons_append, List.append_nil, List.getElem?_cons_zero, List.getElem?_cons_succ, List.map_cons, List.map_nil, List.sum_cons, List.sum_nil, kx_cat_i, kx_cat_r, kx_cat_n, kx_cat_l, kx_cat_v, Nat.reduceAdd, Nat.reduceSub, Nat.reduceEqDiff, Nat.reduceLeDiff, Nat.reduceMul, Nat.reduceLT, Nat.add_zero, Nat.zero_add, Nat.sub_zero, Nat.sub_self, Nat.le_refl, Nat.zero_le, ↓reduceIte, not_true_eq_false, not_false_eq_true, or_true, true_or, or_false, false_or, Option.some.injEq, ne_eq, implies_true, forall_const, forall_eq', forall_eq, and_self, or_self, Bool.or_true, Bool.or_false, Bool.true_or, Bool.false_or, Bool.and_true, Bool.and_false, Bool.true_and, Bool.false_and, Option.toList_some, Option.toList_none, Nat.succ_ne_zero, false_implies, true_implies, kx_l0, kd_sI, kd_sR, kd_sA, kd_sL, fI_sI_eq, fI_sI_ne, fR_sI, aI_sI, mL_sI, ln_sI, fR_sR_eq, fR_sR_ne, fI_sR, aI_sR, mL_sR, ln_sR, fI_sA, fR_sA, mL_sA, ln_sA, fI_sL, fR_sL, aI_sL, ln_sL, lo_X9_lowestPriceOf_0, lo_X9_lowestPriceOf_2, lo_X9_lowestPriceOf_3, lo_X9_lowestPriceOf_4, lo_X9_lowestPriceOf_7, lo_X9_lowestPriceOf_8, lo_X9_lowestPriceOf_9, lo_X9_lowestPriceOf_12, lo_X9_lowestPriceOf_13, lo_X9_lowestPriceOf_14, lo_X9_lowestPriceOf_17, lo_X9_lowestPriceOf_18, lo_X9_lowestPriceOf_21, lo_X9_lowestPriceOf_24, lo_X9_lowestPriceOf_25, lo_X9_lowestPriceOf_26, lo_X9_lowestPriceOf_27, lo_X9_lowestPriceOf_30, lo_X9_lowestPriceOf_33, lo_X9_lowestPriceOf_34, lo_X9_lowestPriceOf_37, lo_X9_lowestPriceOf_38, lo_X9_lowestPriceOf_41, lo_X9_lowestPriceOf_44, lo_X9_lowestPriceOf_47, lo_X9_lowestPriceOf_48, lo_X9_lowestPriceOf_49, lo_X9_lowestPriceOf_52, lo_X9_lowestPriceOf_55, lo_X9_lowestPriceOf_58, lo_X9_lowestPriceOf_59, lo_X9_lowestPriceOf_62, lo_X9_lowestPriceOf_65, lo_X9_lowestPriceOf_66, f2_X2_begin, f2_X2_nextTaker, h1, h2, h3, h4, h5, h6, h7, h8, h9, h10, h11, h12, e13, e14]
    generalize eBegin M r t (fI M 126 t) 1 bl ol = N0 at hS hG ⊢
    have loop : ∀ (n i : Nat) (x : Int32) (N : kx_M), i + n = 200 → pSame M N → vLow M m n x N = vLow M m 200 99 N0 → G 0 0 26 [(0, .ref m), (1, .ref t), (2, .int x), (3, .int (nI i))] [] N := by
      intro n
      induction n with
      | zero =>
        intro i x N hi hN hv
        have e200 : ((200 : Int32) ≤ nI i) = True := eq_true (nI_le (a := 200) (b := i) (by omega) (by omega))
        refine kx_run_ok hG (kx_in [26]) 60 _ _ _ _ _ _ ?_
        simp only [kx_run_s, kx_run_z, kx_in, kx_beq, decide_true, decide_false, cond_true, cond_false, t_push, t_il, t_ll, t_al, t_is, t_ls, t_as, t_inc, t_bin, t_dv, t_lbin, t_lcmp, t_itl, t_dup, t_pop, t_dupx, t_go, t_gk, cutL, t_if, t_ic, t_nul, t_acmp, t_gI, t_gR, t_pI, t_pZ, t_pR, t_new, t_nwa, t_ial, t_ias, t_aln, t_cst, t_sln, t_sld, t_iret, t_zret, t_lret, t_aret, t_vret, t_no, t_call, t_fun, t_sw, sw_to0, t_oin, t_mm, t_qal, t_qas, t_qln, t_nwq, t_gcl, t_acp, lk, up1, cl1, up2, cl2, kx_c2, lv_args, kx_sum, kx_isr_r, kx_isr_n, kx_isr_v, kx_ex_r, kx_ex_n, kx_ex_v, kx_ex2_r, kx_ex2_n, kx_ex2_v, va_rf_s, va_rf_n, Value.ref.injEq, reduceCtorEq, exists_eq_left', exists_eq_left, exists_eq', exists_eq, true_and, and_true, false_and, and_false, List.length_cons, List.length_nil, List.take_succ_cons, List.take_zero, List.drop_succ_cons, List.drop_zero, List.reverse_cons, List.reverse_nil, List.nil_append, List.cons_append, List.append_nil, List.getElem?_cons_zero, List.getElem?_cons_succ, List.map_cons, List.map_nil, List.sum_cons, List.sum_nil, kx_cat_i, kx_cat_r, kx_cat_n, kx_cat_l, kx_cat_v, Nat.reduceAdd, Nat.reduceSub, Nat.reduceEqDiff, Nat.reduceLeDiff, Nat.reduceMul, Nat.reduceLT, Nat.add_zero, Nat.zero_add, Nat.sub_zero, Nat.sub_self, Nat.le_refl, Nat.zero_le, ↓reduceIte, not_true_eq_false, not_false_eq_true, or_true, true_or, or_false, false_or, Option.some.injEq, ne_eq, implies_true, forall_const, forall_eq', forall_eq, and_self, or_self, Bool.or_true, Bool.or_false, Bool.true_or, Bool.false_or, Bool.and_true, Bool.and_false, Bool.true_and, Bool.false_and, Option.toList_some, Option.toList_none, Nat.succ_ne_zero, false_implies, true_implies, kx_l0, kd_sI, kd_sR, kd_sA, kd_sL, fI_sI_eq, fI_sI_ne, fR_sI, aI_sI, mL_sI, ln_sI, fR_sR_eq, fR_sR_ne, fI_sR, aI_sR, mL_sR, ln_sR, fI_sA, fR_sA, mL_sA, ln_sA, fI_sL, fR_sL, aI_sL, ln_sL, lo_X9_lowestPriceOf_0, lo_X9_lowestPriceOf_2, lo_X9_lowestPriceOf_3, lo_X9_lowestPriceOf_4, lo_X9_lowestPriceOf_7, lo_X9_lowestPriceOf_8, lo_X9_lowestPriceOf_9, lo_X9_lowestPriceOf_12, lo_X9_lowestPriceOf_13, lo_X9_lowestPriceOf_14, lo_X9_lowestPriceOf_17, lo_X9_lowestPriceOf_18, lo_X9_lowestPriceOf_21, lo_X9_lowestPriceOf_24, lo_X9_lowestPriceOf_25, lo_X9_lowestPriceOf_26, lo_X9_lowestPriceOf_27, lo_X9_lowestPriceOf_30, lo_X9_lowestPriceOf_33, lo_X9_lowestPriceOf_34, lo_X9_lowestPriceOf_37, lo_X9_lowestPriceOf_38, lo_X9_lowestPriceOf_41, lo_X9_lowestPriceOf_44, lo_X9_lowestPriceOf_47, lo_X9_lowestPriceOf_48, lo_X9_lowestPriceOf_49, lo_X9_lowestPriceOf_52, lo_X9_lowestPriceOf_55, lo_X9_lowestPriceOf_58, lo_X9_lowestPriceOf_59, lo_X9_lowestPriceOf_62, lo_X9_lowestPriceOf_65, lo_X9_lowestPriceOf_66, f2_X2_begin, f2_X2_nextTaker, e200]
        rw [← hv]
        exact ⟨rfl, rfl⟩
      | succ n ih =>
        intro i x N hi hN hv
        have e200 : ((200 : Int32) ≤ nI i) = False := eq_false (nI_ge (a := i) (b := 200) (by omega) (by omega))
        obtain ⟨s1, s2, s3, -⟩ := id hN
        obtain ⟨n1, n2, n3, -⟩ := pSame_next (r := r) (l := mL M ol) 5 _ hN
        have hP := pSame_next (r := r) (l := mL M ol) 5 _ hN
        have e15 : (∀ o ∈ mL M ol, pOrder N o) = True := eq_true (fun o ho => by
          unfold pOrder; rw [s1, s3]; exact h14 o ho)
        have hT : vTake1 M m N = vNext r (mL M ol) 5 N := by unfold vTake1; rw [r1, r3]
        refine kx_run_ok hG (kx_in [26]) 60 _ _ _ _ _ _ ?_
        simp only [kx_run_s, kx_run_z, kx_in, kx_beq, decide_true, decide_false, cond_true, cond_false, t_push, t_il, t_ll, t_al, t_is, t_ls, t_as, t_inc, t_bin, t_dv, t_lbin, t_lcmp, t_itl, t_dup, t_pop, t_dupx, t_go, t_gk, cutL, t_if, t_ic, t_nul, t_acmp, t_gI, t_gR, t_pI, t_pZ, t_pR, t_new, t_nwa, t_ial, t_ias, t_aln, t_cst, t_sln, t_sld, t_iret, t_zret, t_lret, t_aret, t_vret, t_no, t_call, t_fun, t_sw, sw_to0, t_oin, t_mm, t_qal, t_qas, t_qln, t_nwq, t_gcl, t_acp, lk, up1, cl1, up2, cl2, kx_c2, lv_args, kx_sum, kx_isr_r, kx_isr_n, kx_isr_v, kx_ex_r, kx_ex_n, kx_ex_v, kx_ex2_r, kx_ex2_n, kx_ex2_v, va_rf_s, va_rf_n, Value.ref.injEq, reduceCtorEq, exists_eq_left', exists_eq_left, exists_eq', exists_eq, true_and, and_true, false_and, and_false, List.length_cons, List.length_nil, List.take_succ_cons, List.take_zero, List.drop_succ_cons, List.drop_zero, List.reverse_cons, List.reverse_nil, List.nil_append, List.cons_append, List.append_nil, List.getElem?_cons_zero, List.getElem?_cons_succ, List.map_cons, List.map_nil, List.sum_cons, List.sum_nil, kx_cat_i, kx_cat_r, kx_cat_n, kx_cat_l, kx_cat_v, Nat.reduceAdd, Nat.reduceSub, Nat.reduceEqDiff, Nat.reduceLeDiff, Nat.reduceMul, Nat.reduceLT, Nat.add_zero, Nat.zero_add, Nat.sub_zero, Nat.sub_self, Nat.le_refl, Nat.zero_le, ↓reduceIte, not_true_eq_false, not_false_eq_true, or_true, true_or, or_false, false_or, Option.some.injEq, ne_eq, implies_true, forall_const, forall_eq', forall_eq, and_self, or_self, Bool.or_true, Bool.or_false, Bool.true_or, Bool.false_or, Bool.and_true, Bool.and_false, Bool.true_and, Bool.false_and, Option.toList_some, Option.toList_none, Nat.succ_ne_zero, false_implies, true_implies, kx_l0, kd_sI, kd_sR, kd_sA, kd_sL, fI_sI_eq, fI_sI_ne, fR_sI, aI_sI, mL_sI, ln_sI, fR_sR_eq, fR_sR_ne, fI_sR, aI_sR, mL_sR, ln_sR, fI_sA, fR_sA, mL_sA, ln_sA, fI_sL, fR_sL, aI_sL, ln_sL, lo_X9_lowestPriceOf_0, lo_X9_lowestPriceOf_2, lo_X9_lowestPriceOf_3, lo_X9_lowestPriceOf_4, lo_X9_lowestPriceOf_7, lo_X9_lowestPriceOf_8, lo_X9_lowestPriceOf_9, lo_X9_lowestPriceOf_12, lo_X9_lowestPriceOf_13, lo_X9_lowestPriceOf_14, lo_X9_lowestPriceOf_17, lo_X9_lowestPriceOf_18, lo_X9_lowestPriceOf_21, lo_X9_lowestPriceOf_24, lo_X9_lowestPriceOf_25, lo_X9_lowestPriceOf_26, lo_X9_lowestPriceOf_27, lo_X9_lowestPriceOf_30, lo_X9_lowestPriceOf_33, lo_X9_lowestPriceOf_34, lo_X9_lowestPriceOf_37, lo_X9_lowestPriceOf_38, lo_X9_lowestPriceOf_41, lo_X9_lowestPriceOf_44, lo_X9_lowestPriceOf_47, lo_X9_lowestPriceOf_48, lo_X9_lowestPriceOf_49, lo_X9_lowestPriceOf_52, lo_X9_lowestPriceOf_55, lo_X9_lowestPriceOf_58, lo_X9_lowestPriceOf_59, lo_X9_lowestPriceOf_62, lo_X9_lowestPriceOf_65, lo_X9_lowestPriceOf_66, f2_X2_begin, f2_X2_nextTaker, e200, s1, s2, s3, n1, n2, n3, h1, h2, h3, h4, h7, h8, h12, e15]
        cases hq : vNext r (mL M ol) 5 N with
        | mk o N2 =>
          rw [hq] at hP hT
          cases o with
          | none =>
            have hn : vLow M m (n + 1) x N = (x, N2) := by
              conv => lhs; unfold vLow
              rw [hT]
            rw [← hv, hn]
            exact ⟨fun _ => ⟨rfl, rfl⟩, fun z => absurd rfl z⟩
          | some q =>
            have hn : vLow M m (n + 1) x N = vLow M m n (vMin x (fI N2 69 r)) N2 := by
              conv => lhs; unfold vLow
              rw [hT, r1]
            refine ⟨fun z => (by cases z), fun _ => ?_⟩
            rw [nI_1]
            exact ih (i + 1) _ N2 (by omega) hP (hn.symm.trans hv)
    exact loop 200 0 99 N0 rfl hS rfl
  · intro h; exact h.elim
theorem f2_X9_lowestPriceOf_rc (E : kx_E) {av : List Value} {M : kx_M} (h : (f2_X9_lowestPriceOf E av M).1) : ∃ (a : Nat) (as : List Value), av = .ref a :: as ∧ kd M a = 11 := by
  unfold f2_X9_lowestPriceOf at h
  split at h
  · exact ⟨_, _, rfl, h.1⟩
  · exact h.elim
