set_option maxRecDepth 16000 in
theorem f2_X9_numberOfHall_ok (E : kx_E) {av : List Value} {M : kx_M} (h : (f2_X9_numberOfHall E av M).1) : c2t_X9_numberOfHall E av M 0 0 (fun v M1 => v.toList = (f2_X9_numberOfHall E av M).2.1 ∧ M1 = (f2_X9_numberOfHall E av M).2.2) := by
  revert h
  unfold f2_X9_numberOfHall
  split
  · rename_i m w
    intro h
    obtain ⟨h1, ⟨t0, a0, b0⟩, ⟨t1, a1, b1⟩, ⟨t2, a2, b2⟩, ⟨t3, a3, b3⟩, ⟨t4, a4, b4⟩, ⟨t5, a5, b5⟩, ⟨t6, a6, b6, c6, d6⟩, q, a8, b8⟩ := h
    have e6 := eq_true d6
    have r0 : rf M 200 m = t0 := by unfold rf; rw [a0]; rfl
    have r1 : rf M 201 m = t1 := by unfold rf; rw [a1]; rfl
    have r2 : rf M 202 m = t2 := by unfold rf; rw [a2]; rfl
    have r3 : rf M 203 m = t3 := by unfold rf; rw [a3]; rfl
    have r4 : rf M 204 m = t4 := by unfold rf; rw [a4]; rfl
    have r5 : rf M 205 m = t5 := by unfold rf; rw [a5]; rfl
    have r6 : rf M 206 m = t6 := by unfold rf; rw [a6]; rfl
    have r8 : rf M 208 m = q := by unfold rf; rw [a8]; rfl
    unfold vHall vLen bcv
    rw [r0, r1, r2, r3, r4, r5, r6, r8]
    generalize hvl : vLeastR M m = vl
    refine en_X9_numberOfHall E (Nat.le_of_ble_eq_true rfl) (fun G hG => kx_run_ok hG (kx_in []) 60 _ _ _ _ _ _ ?_)
    simp only [kx_run_s, kx_run_z, kx_in, kx_beq, decide_true, decide_false, cond_true, cond_false, t_push, t_il, t_ll, t_al, t_is, t_ls, t_as, t_inc, t_bin, t_dv, t_lbin, t_lcmp, t_itl, t_dup, t_pop, t_dupx, t_go, t_gk, cutL, t_if, t_ic, t_nul, t_acmp, t_gI, t_gR, t_pI, t_pZ, t_pR, t_new, t_nwa, t_ial, t_ias, t_aln, t_cst, t_sln, t_sld, t_iret, t_zret, t_lret, t_aret, t_vret, t_no, t_call, t_fun, t_sw, sw_to0, t_oin, t_mm, t_qal, t_qas, t_qln, t_nwq, t_gcl, t_acp, lk, up1, cl1, up2, cl2, kx_c2, lv_args, kx_sum, kx_isr_r, kx_isr_n, kx_isr_v, kx_ex_r, kx_ex_n, kx_ex_v, kx_ex2_r, kx_ex2_n, kx_ex2_v, va_rf_s, va_rf_n, Value.ref.injEq, reduceCtorEq, exists_eq_left', exists_eq_left, exists_eq', exists_eq, true_and, and_true, false_and, and_false, List.length_cons, List.length_nil, List.take_succ_cons, List.take_zero, List.drop_succ_cons, List.drop_zero, List.reverse_cons, List.reverse_nil, List.nil_append, List.cons_append, List.append_nil, List.getElem?_cons_zero, List.getElem?_cons_succ, List.map_cons, List.map_nil, List.sum_cons, List.sum_nil, kx_cat_i, kx_cat_r, kx_cat_n, kx_cat_l, kx_cat_v, Nat.reduceAdd, Nat.reduceSub, Nat.reduceEqDiff, Nat.reduceLeDiff, Nat.reduceMul, Nat.reduceLT, Nat.add_zero, Nat.zero_add, Nat.sub_zero, Nat.sub_self, Nat.le_refl, Nat.zero_le, ↓reduceIte, not_true_eq_false, not_false_eq_true, or_true, true_or, or_false, false_or, Option.some.injEq, ne_eq, implies_true, forall_const, forall_eq', forall_eq, and_self, or_self, Bool.or_true, Bool.or_false, Bool.true_or, Bool.false_or, Bool.and_true, Bool.and_false, Bool.true_and, Bool.false_and, Option.toList_some, Option.toList_none, Nat.succ_ne_zero, false_implies, true_implies, kx_l0, kd_sI, kd_sR, kd_sA, kd_sL, fI_sI_eq, fI_sI_ne, fR_sI, aI_sI, mL_sI, ln_sI, fR_sR_eq, fR_sR_ne, fI_sR, aI_sR, mL_sR, ln_sR, fI_sA, fR_sA, mL_sA, ln_sA, fI_sL, fR_sL, aI_sL, ln_sL, lo_X9_numberOfHall_0, lo_X9_numberOfHall_1, lo_X9_numberOfHall_80, lo_X9_numberOfHall_81, lo_X9_numberOfHall_84, lo_X9_numberOfHall_85, lo_X9_numberOfHall_86, lo_X9_numberOfHall_89, lo_X9_numberOfHall_92, lo_X9_numberOfHall_93, lo_X9_numberOfHall_94, lo_X9_numberOfHall_97, lo_X9_numberOfHall_100, lo_X9_numberOfHall_101, lo_X9_numberOfHall_102, lo_X9_numberOfHall_105, lo_X9_numberOfHall_108, lo_X9_numberOfHall_109, lo_X9_numberOfHall_110, lo_X9_numberOfHall_113, lo_X9_numberOfHall_116, lo_X9_numberOfHall_117, lo_X9_numberOfHall_118, lo_X9_numberOfHall_121, lo_X9_numberOfHall_124, lo_X9_numberOfHall_125, lo_X9_numberOfHall_126, lo_X9_numberOfHall_129, lo_X9_numberOfHall_132, lo_X9_numberOfHall_133, lo_X9_numberOfHall_134, lo_X9_numberOfHall_137, lo_X9_numberOfHall_140, lo_X9_numberOfHall_141, lo_X9_numberOfHall_142, lo_X9_numberOfHall_145, lo_X9_numberOfHall_146, lo_X9_numberOfHall_147, lo_X9_numberOfHall_150, lo_X9_numberOfHall_151, lo_X9_numberOfHall_152, lo_X9_numberOfHall_155, lo_X9_numberOfHall_156, lo_X9_numberOfHall_157, lo_X9_numberOfHall_160, lo_X9_numberOfHall_161, lo_X9_numberOfHall_162, lo_X9_numberOfHall_165, lo_X9_numberOfHall_166, lo_X9_numberOfHall_167, lo_X9_numberOfHall_170, lo_X9_numberOfHall_171, lo_X9_numberOfHall_173, lo_X9_numberOfHall_174, lo_X9_numberOfHall_177, f2_Jx4a65c_size_8abf5, f2_X9_leastLifeOnRail, f2_X1_of, h1, a0, b0, a1, b1, a2, b2, a3, b3, a4, b4, a5, b5, a6, b6, c6, e6, a8, b8, hvl]
    simp +contextual [-Int32.not_lt, -Int32.not_le]
  · intro h; exact h.elim
theorem f2_X9_numberOfHall_rc (E : kx_E) {av : List Value} {M : kx_M} (h : (f2_X9_numberOfHall E av M).1) : ∃ (a : Nat) (as : List Value), av = .ref a :: as ∧ kd M a = 11 := by
  unfold f2_X9_numberOfHall at h
  split at h
  · exact ⟨_, _, rfl, h.1⟩
  · exact h.elim
