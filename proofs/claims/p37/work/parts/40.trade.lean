set_option maxRecDepth 16000 in
theorem c2_X9_presell (E : kx_E) {M : kx_M} {m ll t bl b g tl sl : Nat} {i j st pr : Int32} (h1 : kd M m = 11) (a1 : fR M 202 m = some ll) (a2 : kd M ll = 1) (a3 : 0 ≤ i) (a4 : i < Int32.ofNat (mL M ll).length) (a5 : (mL M ll)[i.toNatClampNeg]? = some t) (h2 : kd M t = 7) (b1 : fR M 204 m = some bl) (b2 : kd M bl = 1) (b3 : 0 ≤ j) (b4 : j < Int32.ofNat (mL M bl).length) (b5 : (mL M bl)[j.toNatClampNeg]? = some b) (h3 : kd M b = 2) (h4 : fR M 121 t = some g) (h5 : kd M g = 6) (c1 : 1 ≤ st) (c2 : 1 ≤ pr ∧ pr ≤ 99) (c3 : fI M 129 t = 0) (c4 : st ≤ fI M 125 t) (c5 : pr * st ≤ fI M 23 b) (h7 : fR M 206 m = some tl) (h8 : kd M tl = 1) (h9 : (mL M tl).length ≤ 1000) (h10 : fR M 207 m = some sl) (h11 : kd M sl = 1) (h12 : (mL M sl).length ≤ 1000) (hne : tl ≠ sl) : c2t_X9_presell E [.ref m, .int i, .int j, .int st, .int pr] M 4 3011 (fun v M1 => v = some (.int (vShare (pr * st))) ∧ ∃ a q, kd M a = 0 ∧ kd M q = 0 ∧ a ≠ q ∧ M1 = eSell M m t b g none st pr tl sl a q) := by
  have hr : rf M 202 m = ll := by unfold rf; rw [a1]; rfl
  have hr2 : rf M 204 m = bl := by unfold rf; rw [b1]; rfl
  have e1 : (st < 1) = False := eq_false (Int32.not_lt.mpr c1)
  have e2 : (pr < 1) = False := eq_false (Int32.not_lt.mpr c2.1)
  have e3 : (99 < pr) = False := eq_false (Int32.not_lt.mpr c2.2)
  have e4 : (fI M 125 t < st) = False := eq_false (Int32.not_lt.mpr c4)
  have e5 : (pr * st ≤ fI M 23 b) = True := eq_true c5
  have e6 : (fI M 23 b < pr * st) = False := eq_false (Int32.not_lt.mpr c5)
  have e7 : (1 ≤ st) = True := eq_true c1
  refine en_X9_presell E (Nat.le_of_ble_eq_true rfl) (fun G hG => kx_run_ok hG (kx_in [93]) 90 _ _ _ _ _ _ ?_)
  simp only [kx_run_s, kx_run_z, kx_in, kx_beq, decide_true, decide_false, cond_true, cond_false, t_push, t_il, t_ll, t_al, t_is, t_ls, t_as, t_inc, t_bin, t_dv, t_lbin, t_lcmp, t_itl, t_dup, t_pop, t_dupx, t_go, t_gk, cutL, t_if, t_ic, t_nul, t_acmp, t_gI, t_gR, t_pI, t_pZ, t_pR, t_new, t_nwa, t_ial, t_ias, t_aln, t_cst, t_sln, t_sld, t_iret, t_zret, t_lret, t_aret, t_vret, t_no, t_call, t_fun, t_sw, sw_to0, t_oin, t_mm, t_qal, t_qas, t_qln, t_nwq, t_gcl, t_acp, lk, up1, cl1, up2, cl2, kx_c2, lv_args, kx_sum, kx_isr_r, kx_isr_n, kx_isr_v, kx_ex_r, kx_ex_n, kx_ex_v, kx_ex2_r, kx_ex2_n, kx_ex2_v, va_rf_s, va_rf_n, Value.ref.injEq, reduceCtorEq, exists_eq_left', exists_eq_left, exists_eq', exists_eq, true_and, and_true, false_and, and_false, List.length_cons, List.length_nil, List.take_succ_cons, List.take_zero, List.drop_succ_cons, List.drop_zero, List.reverse_cons, List.reverse_nil, List.nil_append, List.cons_append, List.append_nil, List.getElem?_cons_zero, List.getElem?_cons_succ, List.map_cons, List.map_nil, List.sum_cons, List.sum_nil, kx_cat_i, kx_cat_r, kx_cat_n, kx_cat_l, kx_cat_v, Nat.reduceAdd, Nat.reduceSub, Nat.reduceEqDiff, Nat.reduceLeDiff, Nat.reduceMul, Nat.reduceLT, Nat.add_zero, Nat.zero_add, Nat.sub_zero, Nat.sub_self, Nat.le_refl, Nat.zero_le, ↓reduceIte, not_true_eq_false, not_false_eq_true, or_true, true_or, or_false, false_or, Option.some.injEq, ne_eq, implies_true, forall_const, forall_eq', forall_eq, and_self, or_self, Bool.or_true, Bool.or_false, Bool.true_or, Bool.false_or, Bool.and_true, Bool.and_false, Bool.true_and, Bool.false_and, Option.toList_some, Option.toList_none, Nat.succ_ne_zero, false_implies, true_implies, kx_l0, kd_sI, kd_sR, kd_sA, kd_sL, fI_sI_eq, fI_sI_ne, fR_sI, aI_sI, mL_sI, ln_sI, fR_sR_eq, fR_sR_ne, fI_sR, aI_sR, mL_sR, ln_sR, fI_sA, fR_sA, mL_sA, ln_sA, fI_sL, fR_sL, aI_sL, ln_sL, lo_X9_presell_0, lo_X9_presell_1, lo_X9_presell_2, lo_X9_presell_5, lo_X9_presell_7, lo_X9_presell_8, lo_X9_presell_9, lo_X9_presell_12, lo_X9_presell_14, lo_X9_presell_15, lo_X9_presell_16, lo_X9_presell_19, lo_X9_presell_21, lo_X9_presell_22, lo_X9_presell_24, lo_X9_presell_27, lo_X9_presell_30, lo_X9_presell_41, lo_X9_presell_43, lo_X9_presell_46, lo_X9_presell_49, lo_X9_presell_50, lo_X9_presell_52, lo_X9_presell_55, lo_X9_presell_58, lo_X9_presell_60, lo_X9_presell_61, lo_X9_presell_62, lo_X9_presell_64, lo_X9_presell_67, lo_X9_presell_70, lo_X9_presell_81, lo_X9_presell_82, lo_X9_presell_84, lo_X9_presell_86, lo_X9_presell_87, lo_X9_presell_88, lo_X9_presell_90, lo_X9_presell_93, lo_X9_presell_95, lo_X9_presell_96, lo_X9_presell_97, lo_X9_presell_100, f2_X9_lotAt, f2_X9_buyerAt, f2_X9_isWithin, f2_X9_shareOfGrower, h1, a1, a2, a3, a4, a5, h2, b1, b2, b3, b4, b5, h3, hr, hr2, e1, e2, e3, e4, e5, e6, e7, c3, vIn, kx_10]
  have hs := c2_X9_sell E (oo := none) (st := st) (pr := pr) h1 h2 h3 h4 h5 (fun o ho => by cases ho) h7 h8 h9 h10 h11 h12 hne
  rw [va_rf_n] at hs
  refine ⟨4, 3011, by decide, by decide, hs.mono ?_⟩
  rintro v M1 ⟨rfl, hM1⟩
  refine kx_run_ok hG (kx_in [93]) 30 _ _ _ _ _ _ ?_
  simp only [kx_run_s, kx_run_z, kx_in, kx_beq, decide_true, decide_false, cond_true, cond_false, t_push, t_il, t_ll, t_al, t_is, t_ls, t_as, t_inc, t_bin, t_dv, t_lbin, t_lcmp, t_itl, t_dup, t_pop, t_dupx, t_go, t_gk, cutL, t_if, t_ic, t_nul, t_acmp, t_gI, t_gR, t_pI, t_pZ, t_pR, t_new, t_nwa, t_ial, t_ias, t_aln, t_cst, t_sln, t_sld, t_iret, t_zret, t_lret, t_aret, t_vret, t_no, t_call, t_fun, t_sw, sw_to0, t_oin, t_mm, t_qal, t_qas, t_qln, t_nwq, t_gcl, t_acp, lk, up1, cl1, up2, cl2, kx_c2, lv_args, kx_sum, kx_isr_r, kx_isr_n, kx_isr_v, kx_ex_r, kx_ex_n, kx_ex_v, kx_ex2_r, kx_ex2_n, kx_ex2_v, va_rf_s, va_rf_n, Value.ref.injEq, reduceCtorEq, exists_eq_left', exists_eq_left, exists_eq', exists_eq, true_and, and_true, false_and, and_false, List.length_cons, List.length_nil, List.take_succ_cons, List.take_zero, List.drop_succ_cons, List.drop_zero, List.reverse_cons, List.reverse_nil, List.nil_append, List.cons_append, List.append_nil, List.getElem?_cons_zero, List.getElem?_cons_succ, List.map_cons, List.map_nil, List.sum_cons, List.sum_nil, kx_cat_i, kx_cat_r, kx_cat_n, kx_cat_l, kx_cat_v, Nat.reduceAdd, Nat.reduceSub, Nat.reduceEqDiff, Nat.reduceLeDiff, Nat.reduceMul, Nat.reduceLT, Nat.add_zero, Nat.zero_add, Nat.sub_zero, Nat.sub_self, Nat.le_refl, Nat.zero_le, ↓reduceIte, not_true_eq_false, not_false_eq_true, or_true, true_or, or_false, false_or, Option.some.injEq, ne_eq, implies_true, forall_const, forall_eq', forall_eq, and_self, or_self, Bool.or_true, Bool.or_false, Bool.true_or, Bool.false_or, Bool.and_true, Bool.and_false, Bool.true_and, Bool.false_and, Option.toList_some, Option.toList_none, Nat.succ_ne_zero, false_implies, true_implies, kx_l0, kd_sI, kd_sR, kd_sA, kd_sL, fI_sI_eq, fI_sI_ne, fR_sI, aI_sI, mL_sI, ln_sI, fR_sR_eq, fR_sR_ne, fI_sR, aI_sR, mL_sR, ln_sR, fI_sA, fR_sA, mL_sA, ln_sA, fI_sL, fR_sL, aI_sL, ln_sL, lo_X9_presell_0, lo_X9_presell_1, lo_X9_presell_2, lo_X9_presell_5, lo_X9_presell_7, lo_X9_presell_8, lo_X9_presell_9, lo_X9_presell_12, lo_X9_presell_14, lo_X9_presell_15, lo_X9_presell_16, lo_X9_presell_19, lo_X9_presell_21, lo_X9_presell_22, lo_X9_presell_24, lo_X9_presell_27, lo_X9_presell_30, lo_X9_presell_41, lo_X9_presell_43, lo_X9_presell_46, lo_X9_presell_49, lo_X9_presell_50, lo_X9_presell_52, lo_X9_presell_55, lo_X9_presell_58, lo_X9_presell_60, lo_X9_presell_61, lo_X9_presell_62, lo_X9_presell_64, lo_X9_presell_67, lo_X9_presell_70, lo_X9_presell_81, lo_X9_presell_82, lo_X9_presell_84, lo_X9_presell_86, lo_X9_presell_87, lo_X9_presell_88, lo_X9_presell_90, lo_X9_presell_93, lo_X9_presell_95, lo_X9_presell_96, lo_X9_presell_97, lo_X9_presell_100, f2_X9_lotAt, f2_X9_buyerAt, f2_X9_isWithin, f2_X9_shareOfGrower]
  exact hM1
/-- the latest sale undone: its sale s, the list without it -/
def eUndo (M : kx_M) (m t b g : Nat) (oo : Option Nat) (st pr bk : Int32) (tl sl : Nat) : kx_M := eTakeBack (sL M sl ((mL M sl).eraseIdx ((mL M sl).length - 1))) m t b g oo (-1 * st) (-1 * bk) (-1 * pr * st) (-1 * vShare (pr * st)) tl
set_option maxRecDepth 16000 in
theorem c2_X9_undo (E : kx_E) {M : kx_M} {m s t b g tl sl : Nat} {oo : Option Nat} (h1 : kd M m = 11) (h2 : kd M s = 9) (h3 : fR M 160 s = some t) (h4 : kd M t = 7) (h5 : fR M 161 s = some b) (h6 : kd M b = 2) (h7 : fR M 121 t = some g) (h8 : kd M g = 6) (h9 : fR M 162 s = oo) (h10 : ∀ o, oo = some o → kd M o = 8) (h11 : fR M 206 m = some tl) (h12 : kd M tl = 1) (h13 : (mL M tl).length ≤ 1000) (i1 : fR M 207 m = some sl) (i2 : kd M sl = 1) (i3 : (mL M sl).length ≤ 1000) (i4 : (mL M sl)[(mL M sl).length - 1]? = some s) (hne : tl ≠ sl) (j1 : fI M 165 s = fI M 210 m) (j2 : fI M 129 t ≠ 3) (j3 : fI M 166 s ≤ fI M 26 b) : c2t_X9_undo E [.ref m] M 0 0 (fun v M1 => v = some (.int (fI M 163 s)) ∧ M1 = eUndo M m t b g oo (fI M 163 s) (fI M 164 s) (fI M 166 s) tl sl) := by
  obtain ⟨n, hn⟩ : ∃ n, (mL M sl).length = n + 1 := ⟨(mL M sl).length - 1, by
    have : (mL M sl).length - 1 < (mL M sl).length := (List.getElem?_eq_some_iff.mp i4).1
    omega⟩
  have hp : Int32.ofNat (n + 1) - 1 = nI n := nI_pred n
  have e0 : ((mL M sl).length = 0) = False := eq_false (by omega)
  have e1 : (mL M sl)[n]? = some s := by rw [hn] at i4; exact i4
  have e2 : (0 ≤ nI n) = True := eq_true (nI_pos' (by omega))
  have e3 : (nI n < Int32.ofNat (n + 1)) = True := eq_true (nI_lt (by omega) (by omega))
  have e4 : (nI n).toNatClampNeg = n := nI_clamp (by omega)
  have e5 : (fI M 26 b < fI M 166 s) = False := eq_false (Int32.not_lt.mpr j3)
  have e5' : (fI M 166 s ≤ fI M 26 b) = True := eq_true j3
  have e6 : (fI M 129 t = 3) = False := eq_false j2
  have e7 : (1 = (0 : Int32)) = False := by decide
  refine en_X9_undo E (Nat.le_of_ble_eq_true rfl) (fun G hG => kx_run_ok hG (kx_in [110]) 90 _ _ _ _ _ _ ?_)
  simp only [kx_run_s, kx_run_z, kx_in, kx_beq, decide_true, decide_false, cond_true, cond_false, t_push, t_il, t_ll, t_al, t_is, t_ls, t_as, t_inc, t_bin, t_dv, t_lbin, t_lcmp, t_itl, t_dup, t_pop, t_dupx, t_go, t_gk, cutL, t_if, t_ic, t_nul, t_acmp, t_gI, t_gR, t_pI, t_pZ, t_pR, t_new, t_nwa, t_ial, t_ias, t_aln, t_cst, t_sln, t_sld, t_iret, t_zret, t_lret, t_aret, t_vret, t_no, t_call, t_fun, t_sw, sw_to0, t_oin, t_mm, t_qal, t_qas, t_qln, t_nwq, t_gcl, t_acp, lk, up1, cl1, up2, cl2, kx_c2, lv_args, kx_sum, kx_isr_r, kx_isr_n, kx_isr_v, kx_ex_r, kx_ex_n, kx_ex_v, kx_ex2_r, kx_ex2_n, kx_ex2_v, va_rf_s, va_rf_n, Value.ref.injEq, reduceCtorEq, exists_eq_left', exists_eq_left, exists_eq', exists_eq, true_and, and_true, false_and, and_false, List.length_cons, List.length_nil, List.take_succ_cons, List.take_zero, List.drop_succ_cons, List.drop_zero, List.reverse_cons, List.reverse_nil, List.nil_append, List.cons_append, List.append_nil, List.getElem?_cons_zero, List.getElem?_cons_succ, List.map_cons, List.map_nil, List.sum_cons, List.sum_nil, kx_cat_i, kx_cat_r, kx_cat_n, kx_cat_l, kx_cat_v, Nat.reduceAdd, Nat.reduceSub, Nat.reduceEqDiff, Nat.reduceLeDiff, Nat.reduceMul, Nat.reduceLT, Nat.add_zero, Nat.zero_add, Nat.sub_zero, Nat.sub_self, Nat.le_refl, Nat.zero_le, ↓reduceIte, not_true_eq_false, not_false_eq_true, or_true, true_or, or_false, false_or, Option.some.injEq, ne_eq, implies_true, forall_const, forall_eq', forall_eq, and_self, or_self, Bool.or_true, Bool.or_false, Bool.true_or, Bool.false_or, Bool.and_true, Bool.and_false, Bool.true_and, Bool.false_and, Option.toList_some, Option.toList_none, Nat.succ_ne_zero, false_implies, true_implies, kx_l0, kd_sI, kd_sR, kd_sA, kd_sL, fI_sI_eq, fI_sI_ne, fR_sI, aI_sI, mL_sI, ln_sI, fR_sR_eq, fR_sR_ne, fI_sR, aI_sR, mL_sR, ln_sR, fI_sA, fR_sA, mL_sA, ln_sA, fI_sL, fR_sL, aI_sL, ln_sL, lo_X9_undo_0, lo_X9_undo_1, lo_X9_undo_4, lo_X9_undo_7, lo_X9_undo_10, lo_X9_undo_21, lo_X9_undo_22, lo_X9_undo_25, lo_X9_undo_26, lo_X9_undo_29, lo_X9_undo_32, lo_X9_undo_33, lo_X9_undo_34, lo_X9_undo_37, lo_X9_undo_40, lo_X9_undo_41, lo_X9_undo_42, lo_X9_undo_45, lo_X9_undo_46, lo_X9_undo_49, lo_X9_undo_52, lo_X9_undo_53, lo_X9_undo_56, lo_X9_undo_59, lo_X9_undo_60, lo_X9_undo_63, lo_X9_undo_64, lo_X9_undo_67, lo_X9_undo_70, lo_X9_undo_71, lo_X9_undo_74, lo_X9_undo_77, lo_X9_undo_88, lo_X9_undo_89, lo_X9_undo_92, lo_X9_undo_93, lo_X9_undo_96, lo_X9_undo_99, lo_X9_undo_100, lo_X9_undo_101, lo_X9_undo_104, lo_X9_undo_105, lo_X9_undo_106, lo_X9_undo_107, lo_X9_undo_110, lo_X9_undo_111, lo_X9_undo_114, f2_Jx4a65c_isEmpty_aae02, f2_Jx4a65c_size_8abf5, f2_Jx4a65c_get_915e3, f2_Jx4a65c_remove_915e3, h1, h2, h3, h4, h5, h6, i1, i2, hn, hp, e0, e1, e2, e3, e4, e5, e5', e6, j1]
  have hs : ∀ (X : kx_M) (l : List Nat), mL (sL X sl l) tl = mL X tl := fun X l => mL_sL_ne _ _ _ _ hne
  have k1 := c2_X9_takeBack E (M := sL M sl ((mL M sl).eraseIdx n)) (s := s) (tl := tl) h1 h2 h3 h4 h5 h6 h7 h8 h9 h10 h11 h12 (by rw [hs]; exact h13)
  refine ⟨0, 0, by decide, by decide, k1.mono ?_⟩
  rintro v M1 ⟨rfl, hM1⟩
  have hM2 : M1 = eUndo M m t b g oo (fI M 163 s) (fI M 164 s) (fI M 166 s) tl sl := by
    unfold eUndo
    rw [hn, Nat.add_sub_cancel, hM1]
    simp only [fI_sL]
  have hk : kd M1 s = 9 := by
    rw [hM1]
    unfold eTakeBack
    show kd (if _ then _ else _) s = 9
    split
    · split
      · rw [kd_sI, kd_eBook, kd_sL, h2]
      · rw [kd_eBook, kd_sL, h2]
    · rw [kd_sL]
      split
      · rw [kd_sI, kd_eBook, kd_sL, h2]
      · rw [kd_eBook, kd_sL, h2]
  have hI : fI M1 163 s = fI M 163 s := by
    rw [hM1]
    unfold eTakeBack
    show fI (if _ then _ else _) 163 s = _
    split
    · split
      · rw [fI_sI_ne _ _ _ _ _ _ (by decide), fI_eBook_o 163 s (by decide) (by decide), fI_sL]
      · rw [fI_eBook_o 163 s (by decide) (by decide), fI_sL]
    · rw [fI_sL]
      split
      · rw [fI_sI_ne _ _ _ _ _ _ (by decide), fI_eBook_o 163 s (by decide) (by decide), fI_sL]
      · rw [fI_eBook_o 163 s (by decide) (by decide), fI_sL]
  refine kx_run_ok hG (kx_in [110]) 30 _ _ _ _ _ _ ?_
  simp only [kx_run_s, kx_run_z, kx_in, kx_beq, decide_true, decide_false, cond_true, cond_false, t_push, t_il, t_ll, t_al, t_is, t_ls, t_as, t_inc, t_bin, t_dv, t_lbin, t_lcmp, t_itl, t_dup, t_pop, t_dupx, t_go, t_gk, cutL, t_if, t_ic, t_nul, t_acmp, t_gI, t_gR, t_pI, t_pZ, t_pR, t_new, t_nwa, t_ial, t_ias, t_aln, t_cst, t_sln, t_sld, t_iret, t_zret, t_lret, t_aret, t_vret, t_no, t_call, t_fun, t_sw, sw_to0, t_oin, t_mm, t_qal, t_qas, t_qln, t_nwq, t_gcl, t_acp, lk, up1, cl1, up2, cl2, kx_c2, lv_args, kx_sum, kx_isr_r, kx_isr_n, kx_isr_v, kx_ex_r, kx_ex_n, kx_ex_v, kx_ex2_r, kx_ex2_n, kx_ex2_v, va_rf_s, va_rf_n, Value.ref.injEq, reduceCtorEq, exists_eq_left', exists_eq_left, exists_eq', exists_eq, true_and, and_true, false_and, and_false, List.length_cons, List.length_nil, List.take_succ_cons, List.take_zero, List.drop_succ_cons, List.drop_zero, List.reverse_cons, List.reverse_nil, List.nil_append, List.cons_append, List.append_nil, List.getElem?_cons_zero, List.getElem?_cons_succ, List.map_cons, List.map_nil, List.sum_cons, List.sum_nil, kx_cat_i, kx_cat_r, kx_cat_n, kx_cat_l, kx_cat_v, Nat.reduceAdd, Nat.reduceSub, Nat.reduceEqDiff, Nat.reduceLeDiff, Nat.reduceMul, Nat.reduceLT, Nat.add_zero, Nat.zero_add, Nat.sub_zero, Nat.sub_self, Nat.le_refl, Nat.zero_le, ↓reduceIte, not_true_eq_false, not_false_eq_true, or_true, true_or, or_false, false_or, Option.some.injEq, ne_eq, implies_true, forall_const, forall_eq', forall_eq, and_self, or_self, Bool.or_true, Bool.or_false, Bool.true_or, Bool.false_or, Bool.and_true, Bool.and_false, Bool.true_and, Bool.false_and, Option.toList_some, Option.toList_none, Nat.succ_ne_zero, false_implies, true_implies, kx_l0, kd_sI, kd_sR, kd_sA, kd_sL, fI_sI_eq, fI_sI_ne, fR_sI, aI_sI, mL_sI, ln_sI, fR_sR_eq, fR_sR_ne, fI_sR, aI_sR, mL_sR, ln_sR, fI_sA, fR_sA, mL_sA, ln_sA, fI_sL, fR_sL, aI_sL, ln_sL, lo_X9_undo_0, lo_X9_undo_1, lo_X9_undo_4, lo_X9_undo_7, lo_X9_undo_10, lo_X9_undo_21, lo_X9_undo_22, lo_X9_undo_25, lo_X9_undo_26, lo_X9_undo_29, lo_X9_undo_32, lo_X9_undo_33, lo_X9_undo_34, lo_X9_undo_37, lo_X9_undo_40, lo_X9_undo_41, lo_X9_undo_42, lo_X9_undo_45, lo_X9_undo_46, lo_X9_undo_49, lo_X9_undo_52, lo_X9_undo_53, lo_X9_undo_56, lo_X9_undo_59, lo_X9_undo_60, lo_X9_undo_63, lo_X9_undo_64, lo_X9_undo_67, lo_X9_undo_70, lo_X9_undo_71, lo_X9_undo_74, lo_X9_undo_77, lo_X9_undo_88, lo_X9_undo_89, lo_X9_undo_92, lo_X9_undo_93, lo_X9_undo_96, lo_X9_undo_99, lo_X9_undo_100, lo_X9_undo_101, lo_X9_undo_104, lo_X9_undo_105, lo_X9_undo_106, lo_X9_undo_107, lo_X9_undo_110, lo_X9_undo_111, lo_X9_undo_114, f2_Jx4a65c_isEmpty_aae02, f2_Jx4a65c_size_8abf5, f2_Jx4a65c_get_915e3, f2_Jx4a65c_remove_915e3, hk, hI]
  exact hM2
theorem pSame.st {M N : kx_M} (h : pSame M N) : ∀ x, kd M x ≠ 0 → kd N x = kd M x ∧ ∀ i, fR N i x = fR M i x := fun x _ => ⟨by rw [h.1], fun i => by rw [h.2.2.1]⟩
theorem kd_eSell_old {M : kx_M} {m t b g : Nat} {oo : Option Nat} {st pr : Int32} {tl sl a q : Nat} (ha : kd M a = 0) (hq : kd M q = 0) {x : Nat} (hx : kd M x ≠ 0) : kd (eSell M m t b g oo st pr tl sl a q) x = kd M x ∧ ∀ i, fR (eSell M m t b g oo st pr tl sl a q) i x = fR M i x := by
  have hxa : x ≠ a := fun z => hx (by rw [z]; exact ha)
  have hxq : x ≠ q := fun z => hx (by rw [z]; exact hq)
  have eB : ∀ N : kx_M, kd (eSold N t) = kd N ∧ fR (eSold N t) = fR N := fun N => by unfold eSold; split <;> exact ⟨by simp only [kd_sI], by simp only [fR_sI]⟩
  unfold eSell eKeep eSell2 eTro eSell1
  refine ⟨?_, fun i => ?_⟩
  · rw [kd_sL, kd_sL, kd_sI, kd_sI, kd_sI, kd_sR, kd_sN_ne hxq, (eB _).1, kd_eBook, kd_eSale, kd_sN_ne hxa]
  · rw [fR_sL, fR_sL, fR_sI, fR_sI, fR_sI, fR_sR_na _ _ _ _ _ _ hxq, fR_sN_ne _ hxq, (eB _).2, fR_eBook, fR_eSale_ne i hxa, fR_sN_ne _ hxa]
theorem mL_eSell_o {M : kx_M} {m t b g : Nat} {oo : Option Nat} {st pr : Int32} {tl sl a q : Nat} {x : Nat} (hxa : x ≠ a) (hxq : x ≠ q) (h1 : x ≠ tl) (h2 : x ≠ sl) : mL (eSell M m t b g oo st pr tl sl a q) x = mL M x := by
  have eB : ∀ N : kx_M, mL (eSold N t) = mL N := fun N => by unfold eSold; split <;> simp only [mL_sI]
  unfold eSell eKeep eSell2 eTro eSell1
  rw [mL_sL_ne _ _ _ _ h2, mL_sL_ne _ _ _ _ h1, mL_sI, mL_sI, mL_sI, mL_sR, mL_sN_ne hxq, eB, mL_eBook, mL_eSale, mL_sN_ne hxa]
theorem vNext_in {r : Nat} {l : List Nat} : ∀ (n : Nat) (N N2 : kx_M) (o : Nat), vNext r l n N = (some o, N2) → o ∈ l := by
  intro n
  induction n with
  | zero => intro N N2 o h; cases h
  | succ n ih =>
    intro N N2 o h
    unfold vNext at h
    cases hF : vFirst N r l with
    | none => rw [hF] at h; cases h
    | some x =>
      rw [hF] at h
      change (if fI N 66 r < 1 then (none, N) else if vPrice N r x < fI N 64 r then (none, N) else if vPrice N r x < 1 then (none, N) else if vTaken N r x ≤ 0 then vNext r l n (sI N 30 (rf N 140 x) 1) else (some x, eTake N r x (vTaken N r x) (vPrice N r x))) = _ at h
      split at h
      · cases h
      · split at h
        · cases h
        · split at h
          · cases h
          · split at h
            · exact ih _ _ _ h
            · cases h
              exact vFirst_mem hF
theorem kx_c2_i (x : Int32) : kx_c2 (.int x) = false := rfl
theorem kx_c2_r (x : Nat) : kx_c2 (.ref x) = false := rfl
theorem kx_c2_n : kx_c2 .null = false := rfl
theorem kx_c2_l (x : Int64) : kx_c2 (.long x) = true := rfl
theorem kx_c2_v (o : Option Nat) : kx_c2 (va_rf o) = false := by cases o <;> rfl
set_option maxRecDepth 16000 in
theorem c2_X9_clock (E : kx_E) {M : kx_M} {m rl t g r bl ol tl sl : Nat} {rest : List Nat} (h1 : kd M m = 11) (a1 : fR M 203 m = some rl) (a2 : kd M rl = 1) (a3 : mL M rl = t :: rest) (a4 : rest.length ≤ 500) (h2 : kd M t = 7) (h4 : fR M 121 t = some g) (h5 : kd M g = 6) (r1 : fR M 209 m = some r) (r2 : kd M r = 4) (b1 : fR M 204 m = some bl) (b2 : kd M bl = 1) (o1 : fR M 205 m = some ol) (o2 : kd M ol = 1) (b3 : (mL M bl).length ≤ 1000) (o3 : (mL M ol).length ≤ 1000) (b4 : ∀ b ∈ mL M bl, kd M b = 2) (o4 : ∀ o ∈ mL M ol, pOrder M o) (h7 : fR M 206 m = some tl) (h8 : kd M tl = 1) (h10 : fR M 207 m = some sl) (h11 : kd M sl = 1) (n1 : rl ≠ bl) (n2 : rl ≠ ol) (n3 : tl ≠ sl) (n4 : ol ≠ tl) (n5 : ol ≠ sl) (P : Nat → kx_M → Prop) (Q : kx_M → Prop)
    (hP : ∀ n N o N2, P n N → (∀ x, kd M x ≠ 0 → kd N x = kd M x ∧ ∀ i, fR N i x = fR M i x) → vNext r (mL M ol) 5 N = (some o, N2) → ∃ k, n = k + 1 ∧ (mL N tl).length ≤ 1000 ∧ (mL N sl).length ≤ 1000 ∧ ∀ a q, kd N2 a = 0 → kd N2 q = 0 → a ≠ q → P k (eSell N2 m t (rf N2 140 o) g (some o) (fI N2 68 r) (fI N2 69 r) tl sl a q))
    (hQ : ∀ n N N2, P n N → vNext r (mL M ol) 5 N = (none, N2) → Q N2) (h0 : P 9 (eBegin (sL M rl rest) r t (fI M 130 t) (fI M 131 t) bl ol)) : c2t_X9_clock E [.ref m] M 36 27099 (fun v M1 => ∃ X, Q X ∧ (∀ x, kd M x ≠ 0 → kd X x = kd M x ∧ ∀ i, fR X i x = fR M i x) ∧ M1 = (if fI X 129 t = 1 then sI X 129 t 0 else X) ∧ v = some (.int (fI M 125 t - fI X 125 t))) := by
  have c0 : ((mL M rl).length = 0) = False := eq_false (by rw [a3]; exact Nat.succ_ne_zero _)
  have c1 : (0 < Int32.ofNat (mL M rl).length) = True := eq_true (by rw [a3]; exact nI_lt (a := 0) (b := rest.length + 1) (by omega) (by omega))
  have c2 : (mL M rl)[Int32.toNatClampNeg 0]? = some t := by rw [a3, kx_c0]; rfl
  have c3 : (mL M rl).eraseIdx (Int32.toNatClampNeg 0) = rest := by rw [a3, kx_c0]; rfl
  have c4 : ((0 : Int32) ≤ 0) = True := eq_true (Int32.le_refl 0)
  have n1' := Ne.symm n1
  have n2' := Ne.symm n2
  have d1 : mL (sL M rl rest) bl = mL M bl := mL_sL_ne _ _ _ _ n1'
  have d2 : mL (sL M rl rest) ol = mL M ol := mL_sL_ne _ _ _ _ n2'
  have eb3 := eq_true b3
  have eo3 := eq_true o3
  have eb4 := eq_true b4
  have eo4 : (∀ o ∈ mL M ol, kd M o = 8) = True := eq_true (fun o ho => (o4 o ho).1)
  have hS := pSame_begin (sL M rl rest) r t (fI M 130 t) (fI M 131 t) bl ol
  obtain ⟨s1, s2, s3, -⟩ := id hS
  rw [kd_sL] at s1
  rw [fR_sL] at s3
  have s4 : mL (eBegin (sL M rl rest) r t (fI M 130 t) (fI M 131 t) bl ol) ol = mL M ol := by rw [s2, d2]
  have eo5 : (∀ o ∈ mL M ol, pOrder (eBegin (sL M rl rest) r t (fI M 130 t) (fI M 131 t) bl ol) o) = True := eq_true (fun o ho => by
    unfold pOrder; rw [s1, s3]; exact o4 o ho)
  refine en_X9_clock E (Nat.le_of_ble_eq_true rfl) (fun G hG => kx_run_ok hG (kx_in [112, 76]) 90 _ _ _ _ _ _ ?_)
  simp only [kx_run_s, kx_run_z, kx_in, kx_beq, decide_true, decide_false, cond_true, cond_false, t_push, t_il, t_ll, t_al, t_is, t_ls, t_as, t_inc, t_bin, t_dv, t_lbin, t_lcmp, t_itl, t_dup, t_pop, t_dupx, t_go, t_gk, cutL, t_if, t_ic, t_nul, t_acmp, t_gI, t_gR, t_pI, t_pZ, t_pR, t_new, t_nwa, t_ial, t_ias, t_aln, t_cst, t_sln, t_sld, t_iret, t_zret, t_lret, t_aret, t_vret, t_no, t_call, t_fun, t_sw, sw_to0, t_oin, t_mm, t_qal, t_qas, t_qln, t_nwq, t_gcl, t_acp, lk, up1, cl1, up2, cl2, kx_c2_i, kx_c2_r, kx_c2_n, kx_c2_l, kx_c2_v, lv_args, kx_sum, kx_isr_r, kx_isr_n, kx_isr_v, kx_ex_r, kx_ex_n, kx_ex_v, kx_ex2_r, kx_ex2_n, kx_ex2_v, va_rf_s, va_rf_n, Value.ref.injEq, reduceCtorEq, exists_eq_left', exists_eq_left, exists_eq', exists_eq, true_and, and_true, false_and, and_false, List.length_cons, List.length_nil, List.take_succ_cons, List.take_zero, List.drop_succ_cons, List.drop_zero, List.reverse_cons, List.reverse_nil, List.nil_append, List.cons_append, List.append_nil, List.getElem?_cons_zero, List.getElem?_cons_succ, List.map_cons, List.map_nil, List.sum_cons, List.sum_nil, kx_cat_i, kx_cat_r, kx_cat_n, kx_cat_l, kx_cat_v, Nat.reduceAdd, Nat.reduceSub, Nat.reduceEqDiff, Nat.reduceLeDiff, Nat.reduceMul, Nat.reduceLT, Nat.add_zero, Nat.zero_add, Nat.sub_zero, Nat.sub_self, Nat.le_refl, Nat.zero_le, ↓reduceIte, not_true_eq_false, not_false_eq_true, or_true, true_or, or_false, false_or, Option.some.injEq, ne_eq, implies_true, forall_const, forall_eq', forall_eq, and_self, or_self, Bool.or_true, Bool.or_false, Bool.true_or, Bool.false_or, Bool.and_true, Bool.and_false, Bool.true_and, Bool.false_and, Option.toList_some, Option.toList_none, Nat.succ_ne_zero, false_implies, true_implies, kx_l0, kd_sI, kd_sR, kd_sA, kd_sL, fI_sI_eq, fI_sI_ne, fR_sI, aI_sI, mL_sI, ln_sI, fR_sR_eq, fR_sR_ne, fI_sR, aI_sR, mL_sR, ln_sR, fI_sA, fR_sA, mL_sA, ln_sA, fI_sL, fR_sL, aI_sL, ln_sL, lo_X9_clock_0, lo_X9_clock_1, lo_X9_clock_4, lo_X9_clock_7, lo_X9_clock_10, lo_X9_clock_20, lo_X9_clock_21, lo_X9_clock_24, lo_X9_clock_25, lo_X9_clock_28, lo_X9_clock_31, lo_X9_clock_32, lo_X9_clock_33, lo_X9_clock_36, lo_X9_clock_37, lo_X9_clock_38, lo_X9_clock_41, lo_X9_clock_42, lo_X9_clock_43, lo_X9_clock_46, lo_X9_clock_47, lo_X9_clock_50, lo_X9_clock_51, lo_X9_clock_54, lo_X9_clock_55, lo_X9_clock_58, lo_X9_clock_61, lo_X9_clock_62, lo_X9_clock_65, lo_X9_clock_66, lo_X9_clock_69, lo_X9_clock_72, lo_X9_clock_73, lo_X9_clock_74, lo_X9_clock_76, lo_X9_clock_78, lo_X9_clock_81, lo_X9_clock_84, lo_X9_clock_85, lo_X9_clock_88, lo_X9_clock_89, lo_X9_clock_90, lo_X9_clock_91, lo_X9_clock_94, lo_X9_clock_95, lo_X9_clock_96, lo_X9_clock_99, lo_X9_clock_102, lo_X9_clock_103, lo_X9_clock_106, lo_X9_clock_109, lo_X9_clock_112, lo_X9_clock_113, lo_X9_clock_116, lo_X9_clock_117, lo_X9_clock_120, lo_X9_clock_123, lo_X9_clock_124, lo_X9_clock_127, lo_X9_clock_130, lo_X9_clock_131, lo_X9_clock_134, lo_X9_clock_135, lo_X9_clock_138, lo_X9_clock_139, lo_X9_clock_140, lo_X9_clock_143, lo_X9_clock_144, lo_X9_clock_145, lo_X9_clock_148, lo_X9_clock_149, f2_Jx4a65c_isEmpty_aae02, f2_Jx4a65c_remove_915e3, f2_X2_begin, f2_X2_nextTaker, h1, a1, a2, c0, c1, c2, c3, c4, h2, r1, r2, b1, b2, o1, o2, h4, h5, d1, d2, eb3, eo3, eb4, eo4, s1, s3, s4, eo5]
  have hst := hS.st
  rw [kd_sL, fR_sL] at hst
  generalize eBegin (sL M rl rest) r t (fI M 130 t) (fI M 131 t) bl ol = N0 at h0 hst s4 s1 s2 s3 ⊢
  clear eo5 hS
  have loop : ∀ (n i : Nat) (N : kx_M), i + n = 9 → P n N → (∀ x, kd M x ≠ 0 → kd N x = kd M x ∧ ∀ i, fR N i x = fR M i x) → mL N ol = mL M ol → G (4 * n) (3011 * n) 76 [(0, .ref m), (1, .ref t), (2, .int (fI M 125 t)), (3, va_rf (vNext r (mL M ol) 5 N).1), (4, .int (nI i))] [] (vNext r (mL M ol) 5 N).2 := by
    have exit : ∀ (n i : Nat) (N N2 : kx_M), i < 100 → P n N → (∀ x, kd M x ≠ 0 → kd N2 x = kd M x ∧ ∀ i, fR N2 i x = fR M i x) → vNext r (mL M ol) 5 N = (none, N2) → G (4 * n) (3011 * n) 76 [(0, .ref m), (1, .ref t), (2, .int (fI M 125 t)), (3, va_rf none), (4, .int (nI i))] [] N2 := by
      intro n i N N2 hi hPN hN2 hv
      have hq := hQ _ _ _ hPN hv
      have k1 : kd N2 m = 11 := by rw [(hN2 m (by omega)).1, h1]
      have k2 : kd N2 t = 7 := by rw [(hN2 t (by omega)).1, h2]
      have e200 : ((200 : Int32) ≤ nI i) = False := eq_false (nI_ge (a := i) (b := 200) (by omega) (by omega))
      refine kx_run_ok hG (kx_in [112, 76]) 60 _ _ _ _ _ _ ?_
      simp only [kx_run_s, kx_run_z, kx_in, kx_beq, decide_true, decide_false, cond_true, cond_false, t_push, t_il, t_ll, t_al, t_is, t_ls, t_as, t_inc, t_bin, t_dv, t_lbin, t_lcmp, t_itl, t_dup, t_pop, t_dupx, t_go, t_gk, cutL, t_if, t_ic, t_nul, t_acmp, t_gI, t_gR, t_pI, t_pZ, t_pR, t_new, t_nwa, t_ial, t_ias, t_aln, t_cst, t_sln, t_sld, t_iret, t_zret, t_lret, t_aret, t_vret, t_no, t_call, t_fun, t_sw, sw_to0, t_oin, t_mm, t_qal, t_qas, t_qln, t_nwq, t_gcl, t_acp, lk, up1, cl1, up2, cl2, kx_c2_i, kx_c2_r, kx_c2_n, kx_c2_l, kx_c2_v, lv_args, kx_sum, kx_isr_r, kx_isr_n, kx_isr_v, kx_ex_r, kx_ex_n, kx_ex_v, kx_ex2_r, kx_ex2_n, kx_ex2_v, va_rf_s, va_rf_n, Value.ref.injEq, reduceCtorEq, exists_eq_left', exists_eq_left, exists_eq', exists_eq, true_and, and_true, false_and, and_false, List.length_cons, List.length_nil, List.take_succ_cons, List.take_zero, List.drop_succ_cons, List.drop_zero, List.reverse_cons, List.reverse_nil, List.nil_append, List.cons_append, List.append_nil, List.getElem?_cons_zero, List.getElem?_cons_succ, List.map_cons, List.map_nil, List.sum_cons, List.sum_nil, kx_cat_i, kx_cat_r, kx_cat_n, kx_cat_l, kx_cat_v, Nat.reduceAdd, Nat.reduceSub, Nat.reduceEqDiff, Nat.reduceLeDiff, Nat.reduceMul, Nat.reduceLT, Nat.add_zero, Nat.zero_add, Nat.sub_zero, Nat.sub_self, Nat.le_refl, Nat.zero_le, ↓reduceIte, not_true_eq_false, not_false_eq_true, or_true, true_or, or_false, false_or, Option.some.injEq, ne_eq, implies_true, forall_const, forall_eq', forall_eq, and_self, or_self, Bool.or_true, Bool.or_false, Bool.true_or, Bool.false_or, Bool.and_true, Bool.and_false, Bool.true_and, Bool.false_and, Option.toList_some, Option.toList_none, Nat.succ_ne_zero, false_implies, true_implies, kx_l0, kd_sI, kd_sR, kd_sA, kd_sL, fI_sI_eq, fI_sI_ne, fR_sI, aI_sI, mL_sI, ln_sI, fR_sR_eq, fR_sR_ne, fI_sR, aI_sR, mL_sR, ln_sR, fI_sA, fR_sA, mL_sA, ln_sA, fI_sL, fR_sL, aI_sL, ln_sL, lo_X9_clock_0, lo_X9_clock_1, lo_X9_clock_4, lo_X9_clock_7, lo_X9_clock_10, lo_X9_clock_20, lo_X9_clock_21, lo_X9_clock_24, lo_X9_clock_25, lo_X9_clock_28, lo_X9_clock_31, lo_X9_clock_32, lo_X9_clock_33, lo_X9_clock_36, lo_X9_clock_37, lo_X9_clock_38, lo_X9_clock_41, lo_X9_clock_42, lo_X9_clock_43, lo_X9_clock_46, lo_X9_clock_47, lo_X9_clock_50, lo_X9_clock_51, lo_X9_clock_54, lo_X9_clock_55, lo_X9_clock_58, lo_X9_clock_61, lo_X9_clock_62, lo_X9_clock_65, lo_X9_clock_66, lo_X9_clock_69, lo_X9_clock_72, lo_X9_clock_73, lo_X9_clock_74, lo_X9_clock_76, lo_X9_clock_78, lo_X9_clock_81, lo_X9_clock_84, lo_X9_clock_85, lo_X9_clock_88, lo_X9_clock_89, lo_X9_clock_90, lo_X9_clock_91, lo_X9_clock_94, lo_X9_clock_95, lo_X9_clock_96, lo_X9_clock_99, lo_X9_clock_102, lo_X9_clock_103, lo_X9_clock_106, lo_X9_clock_109, lo_X9_clock_112, lo_X9_clock_113, lo_X9_clock_116, lo_X9_clock_117, lo_X9_clock_120, lo_X9_clock_123, lo_X9_clock_124, lo_X9_clock_127, lo_X9_clock_130, lo_X9_clock_131, lo_X9_clock_134, lo_X9_clock_135, lo_X9_clock_138, lo_X9_clock_139, lo_X9_clock_140, lo_X9_clock_143, lo_X9_clock_144, lo_X9_clock_145, lo_X9_clock_148, lo_X9_clock_149, f2_Jx4a65c_isEmpty_aae02, f2_Jx4a65c_remove_915e3, f2_X2_begin, f2_X2_nextTaker, e200, k1, k2]
      refine ⟨fun z => ⟨N2, hq, hN2, by rw [if_neg z], rfl⟩, fun z => ⟨N2, hq, hN2, by rw [if_pos (Decidable.not_not.mp z)], rfl⟩⟩
    intro n
    induction n with
    | zero =>
      intro i N hi hPN hN hLo
      have hX := pSame_next (r := r) (l := mL M ol) 5 N pSame.rf
      cases hv : vNext r (mL M ol) 5 N with
      | mk o N2 =>
        rw [hv] at hX
        have hN2 : ∀ x, kd M x ≠ 0 → kd N2 x = kd M x ∧ ∀ i, fR N2 i x = fR M i x := fun x hx => by
          have e1 := hN x hx
          have e2 := hX.st x (by rw [e1.1]; exact hx)
          exact ⟨e2.1.trans e1.1, fun i => (e2.2 i).trans (e1.2 i)⟩
        cases o with
        | none => exact exit 0 i N N2 (by omega) hPN hN2 hv
        | some o =>
          obtain ⟨k, hk, -⟩ := hP _ _ _ _ hPN hN hv
          exact absurd hk (by omega)
    | succ n ih =>
      intro i N hi hPN hN hLo
      have hX := pSame_next (r := r) (l := mL M ol) 5 N pSame.rf
      cases hv : vNext r (mL M ol) 5 N with
      | mk o N2 =>
        rw [hv] at hX
        have hN2 : ∀ x, kd M x ≠ 0 → kd N2 x = kd M x ∧ ∀ i, fR N2 i x = fR M i x := fun x hx => by
          have e1 := hN x hx
          have e2 := hX.st x (by rw [e1.1]; exact hx)
          exact ⟨e2.1.trans e1.1, fun i => (e2.2 i).trans (e1.2 i)⟩
        have k1 : kd N2 m = 11 := by rw [(hN2 m (by omega)).1, h1]
        have k2 : kd N2 t = 7 := by rw [(hN2 t (by omega)).1, h2]
        have k3 : fR N2 209 m = some r := by rw [(hN2 m (by omega)).2, r1]
        have k4 : kd N2 r = 4 := by rw [(hN2 r (by omega)).1, r2]
        have k5 : fR N2 205 m = some ol := by rw [(hN2 m (by omega)).2, o1]
        have k6 : kd N2 ol = 1 := by rw [(hN2 ol (by omega)).1, o2]
        have k7 : fR N2 121 t = some g := by rw [(hN2 t (by omega)).2, h4]
        have k8 : kd N2 g = 6 := by rw [(hN2 g (by omega)).1, h5]
        have k9 : fR N2 206 m = some tl := by rw [(hN2 m (by omega)).2, h7]
        have k10 : kd N2 tl = 1 := by rw [(hN2 tl (by omega)).1, h8]
        have k11 : fR N2 207 m = some sl := by rw [(hN2 m (by omega)).2, h10]
        have k12 : kd N2 sl = 1 := by rw [(hN2 sl (by omega)).1, h11]
        have e200 : ((200 : Int32) ≤ nI i) = False := eq_false (nI_ge (a := i) (b := 200) (by omega) (by omega))
        cases o with
        | none =>
          exact exit (n + 1) i N N2 (by omega) hPN hN2 hv
        | some o =>
          have ho := vNext_in 5 N N2 o hv
          obtain ⟨p1, b, p2, p3⟩ := o4 o ho
          have j1 : kd N2 o = 8 := by rw [(hN2 o (by omega)).1, p1]
          have j2 : fR N2 140 o = some b := by rw [(hN2 o (by omega)).2, p2]
          have j3 : kd N2 b = 2 := by rw [(hN2 b (by omega)).1, p3]
          have j4 : rf N2 140 o = b := by unfold rf; rw [j2]; rfl
          obtain ⟨k, hk, w1, w2, w3⟩ := hP _ _ _ _ hPN hN hv
          cases hk
          refine kx_run_ok hG (kx_in [112, 76]) 60 _ _ _ _ _ _ ?_
          simp only [kx_run_s, kx_run_z, kx_in, kx_beq, decide_true, decide_false, cond_true, cond_false, t_push, t_il, t_ll, t_al, t_is, t_ls, t_as, t_inc, t_bin, t_dv, t_lbin, t_lcmp, t_itl, t_dup, t_pop, t_dupx, t_go, t_gk, cutL, t_if, t_ic, t_nul, t_acmp, t_gI, t_gR, t_pI, t_pZ, t_pR, t_new, t_nwa, t_ial, t_ias, t_aln, t_cst, t_sln, t_sld, t_iret, t_zret, t_lret, t_aret, t_vret, t_no, t_call, t_fun, t_sw, sw_to0, t_oin, t_mm, t_qal, t_qas, t_qln, t_nwq, t_gcl, t_acp, lk, up1, cl1, up2, cl2, kx_c2_i, kx_c2_r, kx_c2_n, kx_c2_l, kx_c2_v, lv_args, kx_sum, kx_isr_r, kx_isr_n, kx_isr_v, kx_ex_r, kx_ex_n, kx_ex_v, kx_ex2_r, kx_ex2_n, kx_ex2_v, va_rf_s, va_rf_n, Value.ref.injEq, reduceCtorEq, exists_eq_left', exists_eq_left, exists_eq', exists_eq, true_and, and_true, false_and, and_false, List.length_cons, List.length_nil, List.take_succ_cons, List.take_zero, List.drop_succ_cons, List.drop_zero, List.reverse_cons, List.reverse_nil, List.nil_append, List.cons_append, List.append_nil, List.getElem?_cons_zero, List.getElem?_cons_succ, List.map_cons, List.map_nil, List.sum_cons, List.sum_nil, kx_cat_i, kx_cat_r, kx_cat_n, kx_cat_l, kx_cat_v, Nat.reduceAdd, Nat.reduceSub, Nat.reduceEqDiff, Nat.reduceLeDiff, Nat.reduceMul, Nat.reduceLT, Nat.add_zero, Nat.zero_add, Nat.sub_zero, Nat.sub_self, Nat.le_refl, Nat.zero_le, ↓reduceIte, not_true_eq_false, not_false_eq_true, or_true, true_or, or_false, false_or, Option.some.injEq, ne_eq, implies_true, forall_const, forall_eq', forall_eq, and_self, or_self, Bool.or_true, Bool.or_false, Bool.true_or, Bool.false_or, Bool.and_true, Bool.and_false, Bool.true_and, Bool.false_and, Option.toList_some, Option.toList_none, Nat.succ_ne_zero, false_implies, true_implies, kx_l0, kd_sI, kd_sR, kd_sA, kd_sL, fI_sI_eq, fI_sI_ne, fR_sI, aI_sI, mL_sI, ln_sI, fR_sR_eq, fR_sR_ne, fI_sR, aI_sR, mL_sR, ln_sR, fI_sA, fR_sA, mL_sA, ln_sA, fI_sL, fR_sL, aI_sL, ln_sL, lo_X9_clock_0, lo_X9_clock_1, lo_X9_clock_4, lo_X9_clock_7, lo_X9_clock_10, lo_X9_clock_20, lo_X9_clock_21, lo_X9_clock_24, lo_X9_clock_25, lo_X9_clock_28, lo_X9_clock_31, lo_X9_clock_32, lo_X9_clock_33, lo_X9_clock_36, lo_X9_clock_37, lo_X9_clock_38, lo_X9_clock_41, lo_X9_clock_42, lo_X9_clock_43, lo_X9_clock_46, lo_X9_clock_47, lo_X9_clock_50, lo_X9_clock_51, lo_X9_clock_54, lo_X9_clock_55, lo_X9_clock_58, lo_X9_clock_61, lo_X9_clock_62, lo_X9_clock_65, lo_X9_clock_66, lo_X9_clock_69, lo_X9_clock_72, lo_X9_clock_73, lo_X9_clock_74, lo_X9_clock_76, lo_X9_clock_78, lo_X9_clock_81, lo_X9_clock_84, lo_X9_clock_85, lo_X9_clock_88, lo_X9_clock_89, lo_X9_clock_90, lo_X9_clock_91, lo_X9_clock_94, lo_X9_clock_95, lo_X9_clock_96, lo_X9_clock_99, lo_X9_clock_102, lo_X9_clock_103, lo_X9_clock_106, lo_X9_clock_109, lo_X9_clock_112, lo_X9_clock_113, lo_X9_clock_116, lo_X9_clock_117, lo_X9_clock_120, lo_X9_clock_123, lo_X9_clock_124, lo_X9_clock_127, lo_X9_clock_130, lo_X9_clock_131, lo_X9_clock_134, lo_X9_clock_135, lo_X9_clock_138, lo_X9_clock_139, lo_X9_clock_140, lo_X9_clock_143, lo_X9_clock_144, lo_X9_clock_145, lo_X9_clock_148, lo_X9_clock_149, f2_Jx4a65c_isEmpty_aae02, f2_Jx4a65c_remove_915e3, f2_X2_begin, f2_X2_nextTaker, e200, k1, k2, k3, k4, k5, k6, j1, j2, va_rf_s]
          have hmL : mL N2 = mL N := hX.2.1
          have hs := c2_X9_sell E (M := N2) (oo := some o) (st := fI N2 68 r) (pr := fI N2 69 r) k1 k2 j3 k7 k8 (fun x hx => by cases hx; exact j1) k9 k10 (by rw [hmL]; exact w1) k11 k12 (by rw [hmL]; exact w2) n3
          rw [va_rf_s] at hs
          refine ⟨4, 3011, by omega, by omega, hs.mono ?_⟩
          rintro v M1 ⟨rfl, a, q, ha, hq, haq, hM1⟩
          have hP1 := w3 a q ha hq haq
          rw [j4, ← hM1] at hP1
          have hN1 : ∀ x, kd M x ≠ 0 → kd M1 x = kd M x ∧ ∀ i, fR M1 i x = fR M i x := fun x hx => by
            have e1 := hN2 x hx
            have e2 := kd_eSell_old (m := m) (t := t) (b := b) (g := g) (oo := some o) (st := fI N2 68 r) (pr := fI N2 69 r) (tl := tl) (sl := sl) ha hq (x := x) (by rw [e1.1]; exact hx)
            rw [← hM1] at e2
            exact ⟨e2.1.trans e1.1, fun i => (e2.2 i).trans (e1.2 i)⟩
          have hLo1 : mL M1 ol = mL M ol := by
            rw [hM1, mL_eSell_o (kx_ne k6 ha (by decide)) (kx_ne k6 hq (by decide)) n4 n5, hmL, hLo]
          have f1 : 4 * (n + 1) - 4 = 4 * n := by omega
          have f2 : 3011 * (n + 1) - 3011 = 3011 * n := by omega
          have g1 : kd M1 m = 11 := by rw [(hN1 m (by omega)).1, h1]
          have g2 : fR M1 209 m = some r := by rw [(hN1 m (by omega)).2, r1]
          have g3 : kd M1 r = 4 := by rw [(hN1 r (by omega)).1, r2]
          have g4 : fR M1 205 m = some ol := by rw [(hN1 m (by omega)).2, o1]
          have g5 : kd M1 ol = 1 := by rw [(hN1 ol (by omega)).1, o2]
          have g6 : (∀ o ∈ mL M ol, pOrder M1 o) = True := eq_true (fun x hx => by
            obtain ⟨p1, y, p2, p3⟩ := o4 x hx
            exact ⟨by rw [(hN1 x (by omega)).1, p1], y, by rw [(hN1 x (by omega)).2, p2], by rw [(hN1 y (by omega)).1, p3]⟩)
          have hn := ih (i + 1) M1 (by omega) hP1 hN1 hLo1
          rw [← nI_1] at hn
          rw [f1, f2]
          refine kx_run_ok hG (kx_in [112, 76]) 60 _ _ _ _ _ _ ?_
          simp only [kx_run_s, kx_run_z, kx_in, kx_beq, decide_true, decide_false, cond_true, cond_false, t_push, t_il, t_ll, t_al, t_is, t_ls, t_as, t_inc, t_bin, t_dv, t_lbin, t_lcmp, t_itl, t_dup, t_pop, t_dupx, t_go, t_gk, cutL, t_if, t_ic, t_nul, t_acmp, t_gI, t_gR, t_pI, t_pZ, t_pR, t_new, t_nwa, t_ial, t_ias, t_aln, t_cst, t_sln, t_sld, t_iret, t_zret, t_lret, t_aret, t_vret, t_no, t_call, t_fun, t_sw, sw_to0, t_oin, t_mm, t_qal, t_qas, t_qln, t_nwq, t_gcl, t_acp, lk, up1, cl1, up2, cl2, kx_c2_i, kx_c2_r, kx_c2_n, kx_c2_l, kx_c2_v, lv_args, kx_sum, kx_isr_r, kx_isr_n, kx_isr_v, kx_ex_r, kx_ex_n, kx_ex_v, kx_ex2_r, kx_ex2_n, kx_ex2_v, va_rf_s, va_rf_n, Value.ref.injEq, reduceCtorEq, exists_eq_left', exists_eq_left, exists_eq', exists_eq, true_and, and_true, false_and, and_false, List.length_cons, List.length_nil, List.take_succ_cons, List.take_zero, List.drop_succ_cons, List.drop_zero, List.reverse_cons, List.reverse_nil, List.nil_append, List.cons_append, List.append_nil, List.getElem?_cons_zero, List.getElem?_cons_succ, List.map_cons, List.map_nil, List.sum_cons, List.sum_nil, kx_cat_i, kx_cat_r, kx_cat_n, kx_cat_l, kx_cat_v, Nat.reduceAdd, Nat.reduceSub, Nat.reduceEqDiff, Nat.reduceLeDiff, Nat.reduceMul, Nat.reduceLT, Nat.add_zero, Nat.zero_add, Nat.sub_zero, Nat.sub_self, Nat.le_refl, Nat.zero_le, ↓reduceIte, not_true_eq_false, not_false_eq_true, or_true, true_or, or_false, false_or, Option.some.injEq, ne_eq, implies_true, forall_const, forall_eq', forall_eq, and_self, or_self, Bool.or_true, Bool.or_false, Bool.true_or, Bool.false_or, Bool.and_true, Bool.and_false, Bool.true_and, Bool.false_and, Option.toList_some, Option.toList_none, Nat.succ_ne_zero, false_implies, true_implies, kx_l0, kd_sI, kd_sR, kd_sA, kd_sL, fI_sI_eq, fI_sI_ne, fR_sI, aI_sI, mL_sI, ln_sI, fR_sR_eq, fR_sR_ne, fI_sR, aI_sR, mL_sR, ln_sR, fI_sA, fR_sA, mL_sA, ln_sA, fI_sL, fR_sL, aI_sL, ln_sL, lo_X9_clock_0, lo_X9_clock_1, lo_X9_clock_4, lo_X9_clock_7, lo_X9_clock_10, lo_X9_clock_20, lo_X9_clock_21, lo_X9_clock_24, lo_X9_clock_25, lo_X9_clock_28, lo_X9_clock_31, lo_X9_clock_32, lo_X9_clock_33, lo_X9_clock_36, lo_X9_clock_37, lo_X9_clock_38, lo_X9_clock_41, lo_X9_clock_42, lo_X9_clock_43, lo_X9_clock_46, lo_X9_clock_47, lo_X9_clock_50, lo_X9_clock_51, lo_X9_clock_54, lo_X9_clock_55, lo_X9_clock_58, lo_X9_clock_61, lo_X9_clock_62, lo_X9_clock_65, lo_X9_clock_66, lo_X9_clock_69, lo_X9_clock_72, lo_X9_clock_73, lo_X9_clock_74, lo_X9_clock_76, lo_X9_clock_78, lo_X9_clock_81, lo_X9_clock_84, lo_X9_clock_85, lo_X9_clock_88, lo_X9_clock_89, lo_X9_clock_90, lo_X9_clock_91, lo_X9_clock_94, lo_X9_clock_95, lo_X9_clock_96, lo_X9_clock_99, lo_X9_clock_102, lo_X9_clock_103, lo_X9_clock_106, lo_X9_clock_109, lo_X9_clock_112, lo_X9_clock_113, lo_X9_clock_116, lo_X9_clock_117, lo_X9_clock_120, lo_X9_clock_123, lo_X9_clock_124, lo_X9_clock_127, lo_X9_clock_130, lo_X9_clock_131, lo_X9_clock_134, lo_X9_clock_135, lo_X9_clock_138, lo_X9_clock_139, lo_X9_clock_140, lo_X9_clock_143, lo_X9_clock_144, lo_X9_clock_145, lo_X9_clock_148, lo_X9_clock_149, f2_Jx4a65c_isEmpty_aae02, f2_Jx4a65c_remove_915e3, f2_X2_begin, f2_X2_nextTaker, g1, g2, g3, g4, g5, hLo1, eo3, g6]
          exact hn
  exact loop 9 0 N0 rfl h0 hst s4
/-- an hour -/
def eHour (m : Nat) (M : kx_M) : kx_M :=
  let M1 := sI M 210 m (fI M 210 m + 1)
  let M2 := if fI M 210 m + 1 - (fI M 210 m + 1) / 24 * 24 = 0 then (mL M (rf M 200 m)).foldl eDay M1 else M1
  let M3 := (mL M (rf M 201 m)).foldl (eGrowC m) M2
  let M4 := (mL M (rf M 200 m)).foldl ePay M3
  (mL M (rf M 206 m)).foldl eLoseT ((mL M (rf M 202 m)).foldl eLose M4)
def pHour (M : kx_M) (m : Nat) : Prop := pGros M m ∧ pCrops M m ∧ pLots M m ∧ pRail M m ∧ fI M 213 m = 2
theorem foldl_same {α : Type} {p : kx_M → α} {f : kx_M → Nat → kx_M} (hf : ∀ a x, p (f a x) = p a) : ∀ (l : List Nat) (a : kx_M), p (l.foldl f a) = p a := by
  intro l
  induction l with
  | nil => exact fun _ => rfl
  | cons x l ih => exact fun a => (ih (f a x)).trans (hf a x)
theorem kd_eDays (l : List Nat) (M : kx_M) : kd (l.foldl eDay M) = kd M := foldl_same (p := kd) (fun a x => by unfold eDay; simp only [kd_sA]) l M
theorem fR_eDays (l : List Nat) (M : kx_M) : fR (l.foldl eDay M) = fR M := foldl_same (p := fR) (fun a x => by unfold eDay; simp only [fR_sA]) l M
theorem mL_eDays (l : List Nat) (M : kx_M) : mL (l.foldl eDay M) = mL M := foldl_same (p := mL) (fun a x => by unfold eDay; simp only [mL_sA]) l M
theorem fI_eDays (l : List Nat) (M : kx_M) : fI (l.foldl eDay M) = fI M := foldl_same (p := fI) (fun a x => by unfold eDay; simp only [fI_sA]) l M
theorem kd_eGrows (m : Nat) (l : List Nat) (M : kx_M) : kd (l.foldl (eGrowC m) M) = kd M := foldl_same (p := kd) (fun a x => kd_eGrow _ _ _) l M
theorem fR_eGrows (m : Nat) (l : List Nat) (M : kx_M) : fR (l.foldl (eGrowC m) M) = fR M := foldl_same (p := fR) (fun a x => fR_eGrow _ _ _) l M
theorem mL_eGrows (m : Nat) (l : List Nat) (M : kx_M) : mL (l.foldl (eGrowC m) M) = mL M := foldl_same (p := mL) (fun a x => mL_eGrow _ _ _) l M
theorem aI_eGrows (m : Nat) (l : List Nat) (M : kx_M) : aI (l.foldl (eGrowC m) M) = aI M := foldl_same (p := aI) (fun a x => aI_eGrow _ _ _) l M
theorem kd_ePays (l : List Nat) (M : kx_M) : kd (l.foldl ePay M) = kd M := foldl_same (p := kd) (fun a x => by unfold ePay; exact kd_sI _ _ _ _) l M
theorem fR_ePays (l : List Nat) (M : kx_M) : fR (l.foldl ePay M) = fR M := foldl_same (p := fR) (fun a x => by unfold ePay; exact fR_sI _ _ _ _) l M
theorem mL_ePays (l : List Nat) (M : kx_M) : mL (l.foldl ePay M) = mL M := foldl_same (p := mL) (fun a x => by unfold ePay; exact mL_sI _ _ _ _) l M
theorem aI_ePays (l : List Nat) (M : kx_M) : aI (l.foldl ePay M) = aI M := foldl_same (p := aI) (fun a x => by unfold ePay; exact aI_sI _ _ _ _) l M
theorem kd_eLoses (l : List Nat) (M : kx_M) : kd (l.foldl eLose M) = kd M := foldl_same (p := kd) (fun a x => kd_eLose _ _) l M
theorem fR_eLoses (l : List Nat) (M : kx_M) : fR (l.foldl eLose M) = fR M := foldl_same (p := fR) (fun a x => fR_eLose _ _) l M
theorem mL_eLoses (l : List Nat) (M : kx_M) : mL (l.foldl eLose M) = mL M := foldl_same (p := mL) (fun a x => mL_eLose _ _) l M
theorem aI_eLoses (l : List Nat) (M : kx_M) : aI (l.foldl eLose M) = aI M := foldl_same (p := aI) (fun a x => aI_eLose _ _) l M
theorem kd_eLoseTs (l : List Nat) (M : kx_M) : kd (l.foldl eLoseT M) = kd M := foldl_same (p := kd) (fun a x => by unfold eLoseT; exact kd_sI _ _ _ _) l M
theorem fR_eLoseTs (l : List Nat) (M : kx_M) : fR (l.foldl eLoseT M) = fR M := foldl_same (p := fR) (fun a x => by unfold eLoseT; exact fR_sI _ _ _ _) l M
theorem mL_eLoseTs (l : List Nat) (M : kx_M) : mL (l.foldl eLoseT M) = mL M := foldl_same (p := mL) (fun a x => by unfold eLoseT; exact mL_sI _ _ _ _) l M
theorem aI_eLoseTs (l : List Nat) (M : kx_M) : aI (l.foldl eLoseT M) = aI M := foldl_same (p := aI) (fun a x => by unfold eLoseT; exact aI_sI _ _ _ _) l M
