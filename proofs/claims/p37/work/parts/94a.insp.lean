section LI
variable {m : Nat} {A : Nat → Nat} {cut bound : Int} {K : Int32} {H : Int} {M : kx_M}
set_option maxRecDepth 16000 in
theorem c2_L_isInspected (E : kx_E) {k t : Nat} (h : hI m A cut bound K H 0 M) (hk : (mL M (A 202))[k]? = some t) (h1 : fI M 129 t = 1) : c2t_L_isInspected E [.ref m, .int (nI k)] M 0 0 (fun v N => v = some (.int 1) ∧ hI m A cut bound K H 0 N ∧ mL N = mL M) := by
  have ht : t ∈ mL M (A 202) := List.mem_of_getElem? hk
  obtain ⟨kg, g, g1, g2, g3, g4, g5⟩ := lot_gro h ht
  have km : kd M m = 11 := h.1.1
  have k7 : kd M t = 7 := (h.2.2.2.2.2.2.1.2.2.2 t ht).1
  have k6 : kd M g = 6 := (h.2.1.2.2 g g2).1
  obtain ⟨a1, a2, -⟩ := at_lot h hk
  obtain ⟨b1, b2, -⟩ := at_gro h g1
  have a1' := eq_true a1
  have b1' := eq_true b1
  have c1 := eq_true (byc_gro h g2).1
  have hN := hI_inspect h (x := t) g2
  have hL : mL (eInspect M t g) = mL M := by unfold eInspect; split <;> simp only [mL_sI]
  obtain ⟨d1, d2, -⟩ := at_lot hN (k := k) (x := t) (by rw [hL]; exact hk)
  obtain ⟨e1, e2, -⟩ := at_gro hN (k := kg) (x := g) (by rw [hL]; exact g1)
  have d1' := eq_true d1
  have e1' := eq_true e1
  have c2 := eq_true (byc_gro hN (x := g) (by rw [hL]; exact g2)).1
  have kN : kd (eInspect M t g) m = 11 := hN.1.1
  by_cases hl : fI M 130 t ≤ fI M 126 t
  · have hE : eInspect M t g = sI M 103 g (vMin 100 (fI M 103 g + 2)) := by unfold eInspect; exact if_pos hl
    have v103 : fI (eInspect M t g) 103 g = vMin 100 (fI M 103 g + 2) := by rw [hE, fI_sI_eq]
    have v130 : fI (eInspect M t g) 130 t = fI M 130 t := by rw [hE, fI_sI_ne _ _ _ _ _ _ (by decide)]
    have v126 : fI (eInspect M t g) 126 t = fI M 126 t := by rw [hE, fI_sI_ne _ _ _ _ _ _ (by decide)]
    generalize eInspect M t g = N at *
    unfold vMin at v103
    have hl1 := eq_true hl
    have hl2 : (fI M 126 t < fI M 130 t) = False := eq_false (Int32.not_lt.mpr hl)
    refine en_L_isInspected E (Nat.le_of_ble_eq_true rfl) (fun G hG => kx_run_ok hG (kx_in []) 80 _ _ _ _ _ _ ?_)
    simp only [kx_run_s, kx_run_z, kx_in, kx_beq, decide_true, decide_false, cond_true, cond_false, t_push, t_il, t_ll, t_al, t_is, t_ls, t_as, t_inc, t_bin, t_dv, t_lbin, t_lcmp, t_itl, t_dup, t_pop, t_dupx, t_go, t_gk, cutL, t_if, t_ic, t_nul, t_acmp, t_gI, t_gR, t_pI, t_pZ, t_pR, t_new, t_nwa, t_ial, t_ias, t_aln, t_cst, t_sln, t_sld, t_iret, t_zret, t_lret, t_aret, t_vret, t_no, t_call, t_fun, t_sw, sw_to0, t_oin, t_mm, t_qal, t_qas, t_qln, t_nwq, t_gcl, t_acp, lk, up1, cl1, up2, cl2, kx_c2_i, kx_c2_r, kx_c2_n, kx_c2_l, kx_c2_v, lv_args, kx_sum, kx_isr_r, kx_isr_n, kx_isr_v, kx_ex_r, kx_ex_n, kx_ex_v, kx_ex2_r, kx_ex2_n, kx_ex2_v, va_rf_s, va_rf_n, Value.ref.injEq, reduceCtorEq, exists_eq_left', exists_eq_left, exists_eq', exists_eq, true_and, and_true, false_and, and_false, List.length_cons, List.length_nil, List.take_succ_cons, List.take_zero, List.drop_succ_cons, List.drop_zero, List.reverse_cons, List.reverse_nil, List.nil_append, List.cons_append, List.append_nil, List.getElem?_cons_zero, List.getElem?_cons_succ, List.map_cons, List.map_nil, List.sum_cons, List.sum_nil, kx_cat_i, kx_cat_r, kx_cat_n, kx_cat_l, kx_cat_v, Nat.reduceAdd, Nat.reduceSub, Nat.reduceEqDiff, Nat.reduceLeDiff, Nat.reduceMul, Nat.reduceLT, Nat.add_zero, Nat.zero_add, Nat.sub_zero, Nat.sub_self, Nat.le_refl, Nat.zero_le, ↓reduceIte, not_true_eq_false, not_false_eq_true, or_true, true_or, or_false, false_or, Option.some.injEq, ne_eq, implies_true, forall_const, forall_eq', forall_eq, and_self, or_self, Bool.or_true, Bool.or_false, Bool.true_or, Bool.false_or, Bool.and_true, Bool.and_false, Bool.true_and, Bool.false_and, Option.toList_some, Option.toList_none, Nat.succ_ne_zero, false_implies, true_implies, kx_l0, kd_sI, kd_sR, kd_sA, kd_sL, fI_sI_eq, fI_sI_ne, fR_sI, aI_sI, mL_sI, ln_sI, fR_sR_eq, fR_sR_ne, fI_sR, aI_sR, mL_sR, ln_sR, fI_sA, fR_sA, mL_sA, ln_sA, fI_sL, fR_sL, aI_sL, ln_sL, Int32.reduceLT, Int32.reduceLE, Int32.reduceEq, lo_L_isInspected_0, lo_L_isInspected_1, lo_L_isInspected_2, lo_L_isInspected_3, lo_L_isInspected_6, lo_L_isInspected_7, lo_L_isInspected_8, lo_L_isInspected_9, lo_L_isInspected_10, lo_L_isInspected_13, lo_L_isInspected_14, lo_L_isInspected_15, lo_L_isInspected_16, lo_L_isInspected_18, lo_L_isInspected_21, lo_L_isInspected_22, lo_L_isInspected_23, lo_L_isInspected_24, lo_L_isInspected_27, lo_L_isInspected_30, lo_L_isInspected_31, lo_L_isInspected_34, lo_L_isInspected_35, lo_L_isInspected_37, lo_L_isInspected_39, lo_L_isInspected_42, lo_L_isInspected_43, lo_L_isInspected_44, lo_L_isInspected_46, lo_L_isInspected_47, lo_L_isInspected_50, lo_L_isInspected_53, lo_L_isInspected_55, lo_L_isInspected_56, lo_L_isInspected_57, lo_L_isInspected_58, lo_L_isInspected_61, lo_L_isInspected_63, lo_L_isInspected_64, lo_L_isInspected_65, lo_L_isInspected_68, lo_L_isInspected_70, lo_L_isInspected_73, lo_L_isInspected_74, lo_L_isInspected_75, lo_L_isInspected_76, lo_L_isInspected_79, lo_L_isInspected_81, lo_L_isInspected_84, lo_L_isInspected_85, lo_L_isInspected_86, lo_L_isInspected_88, lo_L_isInspected_91, lo_L_isInspected_92, lo_L_isInspected_93, lo_L_isInspected_94, lo_L_isInspected_97, lo_L_isInspected_100, lo_L_isInspected_101, lo_L_isInspected_104, lo_L_isInspected_105, f2_X9_ofLot, f2_X9_ofGrower, f2_X9_inspect, km, a1', a2, b1', b2, c1, g3, g4, g5, h1, k6, k7, kN, d1', d2, e1', e2, c2, vLot_0, vLot_4, vLot_8, vGro_2, v103, v130, v126, hl1, hl2]
    trace_state
    sorry
  · sorry
end LI
