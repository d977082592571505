section LE
variable {m : Nat} {A : Nat → Nat} {cut bound : Int} {K : Int32} {H : Int} {M : kx_M}
/-- the checksum, in the hall -/
theorem h_digest (E : kx_E) (h : hI m A cut bound K H 0 M) : c2t_X9_digest E [.ref m] M 0 0 (fun v N => v = some (.long (vDig M m)) ∧ pOff M N) := by
  have s := h.1
  have hp := hI_pHour h
  have r4 : rf M 204 m = A 204 := hS_rf s (by decide) (by decide)
  have r5 : rf M 205 m = A 205 := hS_rf s (by decide) (by decide)
  have l16 := h.2.2.2.2.2.2.1.2.1
  have z20 := h.2.2.2.2.2.2.2.2.2.1.1
  exact c2_X9_digest E (t := A 202) (hI_hall h) hp.1 hp.2.1 (s.2.1 202 (by decide) (by decide)) (s.2.2.1 202 (by decide) (by decide)) (by omega) (fun x hx => ⟨(h.2.2.2.2.2.2.1.2.2.2 x hx).1, hI_run h hx, by rw [r4, r5]; exact hI_pBnd h hx⟩) ⟨s.1, ⟨A 204, s.2.1 204 (by decide) (by decide), s.2.2.1 204 (by decide) (by decide), by have := h.2.2.1.2.1; omega, fun b hb => ⟨(h.2.2.1.2.2.2 b hb).1, byc_buy h hb⟩⟩, ⟨A 205, s.2.1 205 (by decide) (by decide), s.2.2.1 205 (by decide) (by decide), by have := h.2.2.2.2.2.1.1; omega, fun o ho => (h.2.2.2.2.2.1.2 o ho).1⟩, A 207, s.2.1 207 (by decide) (by decide), s.2.2.1 207 (by decide) (by decide), by omega, fun q hq => h.2.2.2.2.2.2.2.2.2.1.2 q hq⟩ (row_ok h).2
theorem dig_off (h : hI m A cut bound K H 0 M) {N : kx_M} (p : pOff M N) : vDig N m = vDig M m := by
  have s := h.1
  refine vDig_off p (fun x hx => ?_)
  rw [hS_rf s (i := 202) (by decide) (by decide)] at hx
  rw [hS_rf s (i := 204) (by decide) (by decide), hS_rf s (i := 205) (by decide) (by decide)]
  exact hI_pBnd h hx
theorem cmp_self (d : Int64) : lg_cmp d d = 0 := by
  unfold lg_cmp
  simp
set_option maxRecDepth 16000 in
theorem law_end (E : kx_E) {G : kx_K} {Qr : kx_Q} (hG : kx_all G Qr (cd_L_lawZ E)) (h : hI m A cut bound K H 0 M) {b bc bs : Nat} {ct lp bd x5 : Int32} : G bc bs 1086 [(0, .ref b), (1, .ref m), (2, .int ct), (3, .int lp), (4, .int bd), (5, .int x5)] [] M := by
  have s := h.1
  have km : kd M m = 11 := s.1
  have hd := h_digest E h
  have l16 := h.2.2.2.2.2.2.1.2.1
  refine kx_run_ok hG (kx_in [1090, 1138, 1095]) 20 _ _ _ _ _ _ ?_
  simp only [kx_run_s, kx_run_z, kx_in, kx_beq, decide_true, decide_false, cond_true, cond_false, t_push, t_il, t_ll, t_al, t_is, t_ls, t_as, t_inc, t_bin, t_dv, t_lbin, t_lcmp, t_itl, t_dup, t_pop, t_dupx, t_go, t_gk, cutL, t_if, t_ic, t_nul, t_acmp, t_gI, t_gR, t_pI, t_pZ, t_pR, t_new, t_nwa, t_ial, t_ias, t_aln, t_cst, t_sln, t_sld, t_iret, t_zret, t_lret, t_aret, t_vret, t_no, t_call, t_fun, t_sw, sw_to0, t_oin, t_mm, t_qal, t_qas, t_qln, t_nwq, t_gcl, t_acp, lk, up1, cl1, up2, cl2, kx_c2_i, kx_c2_r, kx_c2_n, kx_c2_l, kx_c2_v, lv_args, kx_sum, kx_isr_r, kx_isr_n, kx_isr_v, kx_ex_r, kx_ex_n, kx_ex_v, kx_ex2_r, kx_ex2_n, kx_ex2_v, va_rf_s, va_rf_n, Value.ref.injEq, reduceCtorEq, exists_eq_left', exists_eq_left, exists_eq', exists_eq, true_and, and_true, false_and, and_false, List.length_cons, List.length_nil, List.take_succ_cons, List.take_zero, List.drop_succ_cons, List.drop_zero, List.reverse_cons, List.reverse_nil, List.nil_append, List.cons_append, List.append_nil, List.getElem?_cons_zero, List.getElem?_cons_succ, List.map_cons, List.map_nil, List.sum_cons, List.sum_nil, kx_cat_i, kx_cat_r, kx_cat_n, kx_cat_l, kx_cat_v, Nat.reduceAdd, Nat.reduceSub, Nat.reduceEqDiff, Nat.reduceLeDiff, Nat.reduceMul, Nat.reduceLT, Nat.add_zero, Nat.zero_add, Nat.sub_zero, Nat.sub_self, Nat.le_refl, Nat.zero_le, ↓reduceIte, not_true_eq_false, not_false_eq_true, or_true, true_or, or_false, false_or, Option.some.injEq, ne_eq, implies_true, forall_const, forall_eq', forall_eq, and_self, or_self, Bool.or_true, Bool.or_false, Bool.true_or, Bool.false_or, Bool.and_true, Bool.and_false, Bool.true_and, Bool.false_and, Option.toList_some, Option.toList_none, Nat.succ_ne_zero, false_implies, true_implies, kx_l0, kd_sI, kd_sR, kd_sA, kd_sL, fI_sI_eq, fI_sI_ne, fR_sI, aI_sI, mL_sI, ln_sI, fR_sR_eq, fR_sR_ne, fI_sR, aI_sR, mL_sR, ln_sR, fI_sA, fR_sA, mL_sA, ln_sA, fI_sL, fR_sL, aI_sL, ln_sL, Int32.reduceLT, Int32.reduceLE, z_01, z_02, z_12, kx_10, z_20, z_21, lo_L_lawZ_1086, lo_L_lawZ_1087, lo_L_lawZ_1090, lo_L_lawZ_1092, lo_L_lawZ_1093, lo_L_lawZ_1095, lo_L_lawZ_1097, lo_L_lawZ_1098, lo_L_lawZ_1099, lo_L_lawZ_1102, lo_L_lawZ_1105, lo_L_lawZ_1106, lo_L_lawZ_1108, lo_L_lawZ_1111, lo_L_lawZ_1113, lo_L_lawZ_1116, lo_L_lawZ_1117, lo_L_lawZ_1119, lo_L_lawZ_1122, lo_L_lawZ_1123, lo_L_lawZ_1126, lo_L_lawZ_1127, lo_L_lawZ_1128, lo_L_lawZ_1131, lo_L_lawZ_1134, lo_L_lawZ_1135, lo_L_lawZ_1138, lo_L_lawZ_1140, lo_L_lawZ_1141, lo_L_lawZ_1144, lo_L_lawZ_1145, lo_L_lawZ_1148, lo_L_lawZ_1149, f2_X9_many, km]
  refine ⟨0, 0, Nat.zero_le _, Nat.zero_le _, hd.mono ?_⟩
  rintro v N0 ⟨rfl, o0⟩
  have loop : ∀ (n i : Nat) (N : kx_M), i + n = (mL M (A 202)).length → pOff M N → G bc bs 1095 [(5, .long (vDig M m)), (0, .ref b), (1, .ref m), (2, .int ct), (3, .int lp), (4, .int bd), (7, .int (nI i))] [] N := by
    intro n
    induction n with
    | zero =>
      intro i N hi hN
      have hI1 := hI_off h hN
      have kN : kd N m = 11 := hI1.1.1
      have hh := eq_true (hI_hall hI1)
      have v3 := vHal_3 hI1.1
      rw [hN.1.2.1] at v3
      have e1 : (nI (mL M (A 202)).length ≤ nI i) = True := eq_true (nI_le (by omega) (by omega))
      have hd2 := h_digest E hI1
      rw [dig_off h hN] at hd2
      have ec := cmp_self (vDig M m)
      refine kx_run_ok hG (kx_in [1090, 1138, 1095]) 20 _ _ _ _ _ _ ?_
      simp only [kx_run_s, kx_run_z, kx_in, kx_beq, decide_true, decide_false, cond_true, cond_false, t_push, t_il, t_ll, t_al, t_is, t_ls, t_as, t_inc, t_bin, t_dv, t_lbin, t_lcmp, t_itl, t_dup, t_pop, t_dupx, t_go, t_gk, cutL, t_if, t_ic, t_nul, t_acmp, t_gI, t_gR, t_pI, t_pZ, t_pR, t_new, t_nwa, t_ial, t_ias, t_aln, t_cst, t_sln, t_sld, t_iret, t_zret, t_lret, t_aret, t_vret, t_no, t_call, t_fun, t_sw, sw_to0, t_oin, t_mm, t_qal, t_qas, t_qln, t_nwq, t_gcl, t_acp, lk, up1, cl1, up2, cl2, kx_c2_i, kx_c2_r, kx_c2_n, kx_c2_l, kx_c2_v, lv_args, kx_sum, kx_isr_r, kx_isr_n, kx_isr_v, kx_ex_r, kx_ex_n, kx_ex_v, kx_ex2_r, kx_ex2_n, kx_ex2_v, va_rf_s, va_rf_n, Value.ref.injEq, reduceCtorEq, exists_eq_left', exists_eq_left, exists_eq', exists_eq, true_and, and_true, false_and, and_false, List.length_cons, List.length_nil, List.take_succ_cons, List.take_zero, List.drop_succ_cons, List.drop_zero, List.reverse_cons, List.reverse_nil, List.nil_append, List.cons_append, List.append_nil, List.getElem?_cons_zero, List.getElem?_cons_succ, List.map_cons, List.map_nil, List.sum_cons, List.sum_nil, kx_cat_i, kx_cat_r, kx_cat_n, kx_cat_l, kx_cat_v, Nat.reduceAdd, Nat.reduceSub, Nat.reduceEqDiff, Nat.reduceLeDiff, Nat.reduceMul, Nat.reduceLT, Nat.add_zero, Nat.zero_add, Nat.sub_zero, Nat.sub_self, Nat.le_refl, Nat.zero_le, ↓reduceIte, not_true_eq_false, not_false_eq_true, or_true, true_or, or_false, false_or, Option.some.injEq, ne_eq, implies_true, forall_const, forall_eq', forall_eq, and_self, or_self, Bool.or_true, Bool.or_false, Bool.true_or, Bool.false_or, Bool.and_true, Bool.and_false, Bool.true_and, Bool.false_and, Option.toList_some, Option.toList_none, Nat.succ_ne_zero, false_implies, true_implies, kx_l0, kd_sI, kd_sR, kd_sA, kd_sL, fI_sI_eq, fI_sI_ne, fR_sI, aI_sI, mL_sI, ln_sI, fR_sR_eq, fR_sR_ne, fI_sR, aI_sR, mL_sR, ln_sR, fI_sA, fR_sA, mL_sA, ln_sA, fI_sL, fR_sL, aI_sL, ln_sL, Int32.reduceLT, Int32.reduceLE, z_01, z_02, z_12, kx_10, z_20, z_21, lo_L_lawZ_1086, lo_L_lawZ_1087, lo_L_lawZ_1090, lo_L_lawZ_1092, lo_L_lawZ_1093, lo_L_lawZ_1095, lo_L_lawZ_1097, lo_L_lawZ_1098, lo_L_lawZ_1099, lo_L_lawZ_1102, lo_L_lawZ_1105, lo_L_lawZ_1106, lo_L_lawZ_1108, lo_L_lawZ_1111, lo_L_lawZ_1113, lo_L_lawZ_1116, lo_L_lawZ_1117, lo_L_lawZ_1119, lo_L_lawZ_1122, lo_L_lawZ_1123, lo_L_lawZ_1126, lo_L_lawZ_1127, lo_L_lawZ_1128, lo_L_lawZ_1131, lo_L_lawZ_1134, lo_L_lawZ_1135, lo_L_lawZ_1138, lo_L_lawZ_1140, lo_L_lawZ_1141, lo_L_lawZ_1144, lo_L_lawZ_1145, lo_L_lawZ_1148, lo_L_lawZ_1149, f2_X9_many, kN, hh, v3, e1]
      refine ⟨0, 0, Nat.zero_le _, Nat.zero_le _, hd2.mono ?_⟩
      rintro v N2 ⟨rfl, o2⟩
      refine kx_run_ok hG (kx_in [1090, 1138, 1095]) 20 _ _ _ _ _ _ ?_
      simp only [kx_run_s, kx_run_z, kx_in, kx_beq, decide_true, decide_false, cond_true, cond_false, t_push, t_il, t_ll, t_al, t_is, t_ls, t_as, t_inc, t_bin, t_dv, t_lbin, t_lcmp, t_itl, t_dup, t_pop, t_dupx, t_go, t_gk, cutL, t_if, t_ic, t_nul, t_acmp, t_gI, t_gR, t_pI, t_pZ, t_pR, t_new, t_nwa, t_ial, t_ias, t_aln, t_cst, t_sln, t_sld, t_iret, t_zret, t_lret, t_aret, t_vret, t_no, t_call, t_fun, t_sw, sw_to0, t_oin, t_mm, t_qal, t_qas, t_qln, t_nwq, t_gcl, t_acp, lk, up1, cl1, up2, cl2, kx_c2_i, kx_c2_r, kx_c2_n, kx_c2_l, kx_c2_v, lv_args, kx_sum, kx_isr_r, kx_isr_n, kx_isr_v, kx_ex_r, kx_ex_n, kx_ex_v, kx_ex2_r, kx_ex2_n, kx_ex2_v, va_rf_s, va_rf_n, Value.ref.injEq, reduceCtorEq, exists_eq_left', exists_eq_left, exists_eq', exists_eq, true_and, and_true, false_and, and_false, List.length_cons, List.length_nil, List.take_succ_cons, List.take_zero, List.drop_succ_cons, List.drop_zero, List.reverse_cons, List.reverse_nil, List.nil_append, List.cons_append, List.append_nil, List.getElem?_cons_zero, List.getElem?_cons_succ, List.map_cons, List.map_nil, List.sum_cons, List.sum_nil, kx_cat_i, kx_cat_r, kx_cat_n, kx_cat_l, kx_cat_v, Nat.reduceAdd, Nat.reduceSub, Nat.reduceEqDiff, Nat.reduceLeDiff, Nat.reduceMul, Nat.reduceLT, Nat.add_zero, Nat.zero_add, Nat.sub_zero, Nat.sub_self, Nat.le_refl, Nat.zero_le, ↓reduceIte, not_true_eq_false, not_false_eq_true, or_true, true_or, or_false, false_or, Option.some.injEq, ne_eq, implies_true, forall_const, forall_eq', forall_eq, and_self, or_self, Bool.or_true, Bool.or_false, Bool.true_or, Bool.false_or, Bool.and_true, Bool.and_false, Bool.true_and, Bool.false_and, Option.toList_some, Option.toList_none, Nat.succ_ne_zero, false_implies, true_implies, kx_l0, kd_sI, kd_sR, kd_sA, kd_sL, fI_sI_eq, fI_sI_ne, fR_sI, aI_sI, mL_sI, ln_sI, fR_sR_eq, fR_sR_ne, fI_sR, aI_sR, mL_sR, ln_sR, fI_sA, fR_sA, mL_sA, ln_sA, fI_sL, fR_sL, aI_sL, ln_sL, Int32.reduceLT, Int32.reduceLE, z_01, z_02, z_12, kx_10, z_20, z_21, lo_L_lawZ_1086, lo_L_lawZ_1087, lo_L_lawZ_1090, lo_L_lawZ_1092, lo_L_lawZ_1093, lo_L_lawZ_1095, lo_L_lawZ_1097, lo_L_lawZ_1098, lo_L_lawZ_1099, lo_L_lawZ_1102, lo_L_lawZ_1105, lo_L_lawZ_1106, lo_L_lawZ_1108, lo_L_lawZ_1111, lo_L_lawZ_1113, lo_L_lawZ_1116, lo_L_lawZ_1117, lo_L_lawZ_1119, lo_L_lawZ_1122, lo_L_lawZ_1123, lo_L_lawZ_1126, lo_L_lawZ_1127, lo_L_lawZ_1128, lo_L_lawZ_1131, lo_L_lawZ_1134, lo_L_lawZ_1135, lo_L_lawZ_1138, lo_L_lawZ_1140, lo_L_lawZ_1141, lo_L_lawZ_1144, lo_L_lawZ_1145, lo_L_lawZ_1148, lo_L_lawZ_1149, f2_X9_many, ec, t_one, eq_self]
    | succ n ih =>
      intro i N hi hN
      have hI1 := hI_off h hN
      have kN : kd N m = 11 := hI1.1.1
      have hh := eq_true (hI_hall hI1)
      have v3 := vHal_3 hI1.1
      rw [hN.1.2.1] at v3
      have e1 : (nI (mL M (A 202)).length ≤ nI i) = False := eq_false (fun z => nI_ge (a := i) (b := (mL M (A 202)).length) (by omega) (by omega) z)
      obtain ⟨t, ht⟩ : ∃ t, (mL M (A 202))[i]? = some t := ⟨_, List.getElem?_eq_getElem (by omega)⟩
      have htN : (mL N (A 202))[i]? = some t := by rw [hN.1.2.1]; exact ht
      obtain ⟨a1, a2, -⟩ := at_lot hI1 htN
      have a1' := eq_true a1
      have r1 := eq_true (hI_run hI1 (List.mem_of_getElem? htN))
      obtain ⟨-, -, -, -, -, -, hc⟩ := best_facts hI1 (List.mem_of_getElem? htN)
      have e2 : ((99 : Int32) < vFP N m t) = False := eq_false (fun z => by
        have := iv_lt.mp z
        rw [iv_99] at this
        rcases hc with ⟨w, -⟩ | ⟨-, w, -⟩
        · rw [w, iv_m1] at this
          omega
        · omega)
      have o1 := pOff_fp (M := N) m t
      generalize hN1e : (vTake1 N m (eAsk N m t)).2 = N1 at o1
      have hI2 := hI_off hI1 o1
      have kN1 : kd N1 m = 11 := hI2.1.1
      have htN1 : (mL N1 (A 202))[i]? = some t := by rw [o1.1.2.1]; exact htN
      obtain ⟨b1, b2, -⟩ := at_lot hI2 htN1
      have b1' := eq_true b1
      have r2 := eq_true (hI_run hI2 (List.mem_of_getElem? htN1))
      obtain ⟨-, -, w1, -, -, -, -⟩ := best_facts hI2 (List.mem_of_getElem? htN1)
      have e3 : (1 ≤ vLP N1 m t) = True := eq_true (iv_le.mpr (by rw [iv_1]; exact w1))
      have o2 := pOff_lp (M := N1) m t
      have hn := ih (i + 1) (vLow N1 m 200 99 (eAsk N1 m t)).2 (by omega) ((hN.tr o1).tr o2)
      rw [← nI_1] at hn
      refine kx_run_ok hG (kx_in [1090, 1138, 1095]) 40 _ _ _ _ _ _ ?_
      simp only [kx_run_s, kx_run_z, kx_in, kx_beq, decide_true, decide_false, cond_true, cond_false, t_push, t_il, t_ll, t_al, t_is, t_ls, t_as, t_inc, t_bin, t_dv, t_lbin, t_lcmp, t_itl, t_dup, t_pop, t_dupx, t_go, t_gk, cutL, t_if, t_ic, t_nul, t_acmp, t_gI, t_gR, t_pI, t_pZ, t_pR, t_new, t_nwa, t_ial, t_ias, t_aln, t_cst, t_sln, t_sld, t_iret, t_zret, t_lret, t_aret, t_vret, t_no, t_call, t_fun, t_sw, sw_to0, t_oin, t_mm, t_qal, t_qas, t_qln, t_nwq, t_gcl, t_acp, lk, up1, cl1, up2, cl2, kx_c2_i, kx_c2_r, kx_c2_n, kx_c2_l, kx_c2_v, lv_args, kx_sum, kx_isr_r, kx_isr_n, kx_isr_v, kx_ex_r, kx_ex_n, kx_ex_v, kx_ex2_r, kx_ex2_n, kx_ex2_v, va_rf_s, va_rf_n, Value.ref.injEq, reduceCtorEq, exists_eq_left', exists_eq_left, exists_eq', exists_eq, true_and, and_true, false_and, and_false, List.length_cons, List.length_nil, List.take_succ_cons, List.take_zero, List.drop_succ_cons, List.drop_zero, List.reverse_cons, List.reverse_nil, List.nil_append, List.cons_append, List.append_nil, List.getElem?_cons_zero, List.getElem?_cons_succ, List.map_cons, List.map_nil, List.sum_cons, List.sum_nil, kx_cat_i, kx_cat_r, kx_cat_n, kx_cat_l, kx_cat_v, Nat.reduceAdd, Nat.reduceSub, Nat.reduceEqDiff, Nat.reduceLeDiff, Nat.reduceMul, Nat.reduceLT, Nat.add_zero, Nat.zero_add, Nat.sub_zero, Nat.sub_self, Nat.le_refl, Nat.zero_le, ↓reduceIte, not_true_eq_false, not_false_eq_true, or_true, true_or, or_false, false_or, Option.some.injEq, ne_eq, implies_true, forall_const, forall_eq', forall_eq, and_self, or_self, Bool.or_true, Bool.or_false, Bool.true_or, Bool.false_or, Bool.and_true, Bool.and_false, Bool.true_and, Bool.false_and, Option.toList_some, Option.toList_none, Nat.succ_ne_zero, false_implies, true_implies, kx_l0, kd_sI, kd_sR, kd_sA, kd_sL, fI_sI_eq, fI_sI_ne, fR_sI, aI_sI, mL_sI, ln_sI, fR_sR_eq, fR_sR_ne, fI_sR, aI_sR, mL_sR, ln_sR, fI_sA, fR_sA, mL_sA, ln_sA, fI_sL, fR_sL, aI_sL, ln_sL, Int32.reduceLT, Int32.reduceLE, z_01, z_02, z_12, kx_10, z_20, z_21, lo_L_lawZ_1086, lo_L_lawZ_1087, lo_L_lawZ_1090, lo_L_lawZ_1092, lo_L_lawZ_1093, lo_L_lawZ_1095, lo_L_lawZ_1097, lo_L_lawZ_1098, lo_L_lawZ_1099, lo_L_lawZ_1102, lo_L_lawZ_1105, lo_L_lawZ_1106, lo_L_lawZ_1108, lo_L_lawZ_1111, lo_L_lawZ_1113, lo_L_lawZ_1116, lo_L_lawZ_1117, lo_L_lawZ_1119, lo_L_lawZ_1122, lo_L_lawZ_1123, lo_L_lawZ_1126, lo_L_lawZ_1127, lo_L_lawZ_1128, lo_L_lawZ_1131, lo_L_lawZ_1134, lo_L_lawZ_1135, lo_L_lawZ_1138, lo_L_lawZ_1140, lo_L_lawZ_1141, lo_L_lawZ_1144, lo_L_lawZ_1145, lo_L_lawZ_1148, lo_L_lawZ_1149, f2_X9_many, f2wf_1, f2wf_2, f2wf_3, f2bm_1, f2bm_2, f2bm_3, kN, hh, v3, e1, a1', a2, r1, e2, hN1e, kN1, b1', b2, r2, e3]
      exact hn
  have hn := loop (mL M (A 202)).length 0 N0 (by omega) o0
  have z00 : nI 0 = 0 := by decide
  rw [z00] at hn
  refine kx_run_ok hG (kx_in [1090, 1138, 1095]) 20 _ _ _ _ _ _ ?_
  simp only [kx_run_s, kx_run_z, kx_in, kx_beq, decide_true, decide_false, cond_true, cond_false, t_push, t_il, t_ll, t_al, t_is, t_ls, t_as, t_inc, t_bin, t_dv, t_lbin, t_lcmp, t_itl, t_dup, t_pop, t_dupx, t_go, t_gk, cutL, t_if, t_ic, t_nul, t_acmp, t_gI, t_gR, t_pI, t_pZ, t_pR, t_new, t_nwa, t_ial, t_ias, t_aln, t_cst, t_sln, t_sld, t_iret, t_zret, t_lret, t_aret, t_vret, t_no, t_call, t_fun, t_sw, sw_to0, t_oin, t_mm, t_qal, t_qas, t_qln, t_nwq, t_gcl, t_acp, lk, up1, cl1, up2, cl2, kx_c2_i, kx_c2_r, kx_c2_n, kx_c2_l, kx_c2_v, lv_args, kx_sum, kx_isr_r, kx_isr_n, kx_isr_v, kx_ex_r, kx_ex_n, kx_ex_v, kx_ex2_r, kx_ex2_n, kx_ex2_v, va_rf_s, va_rf_n, Value.ref.injEq, reduceCtorEq, exists_eq_left', exists_eq_left, exists_eq', exists_eq, true_and, and_true, false_and, and_false, List.length_cons, List.length_nil, List.take_succ_cons, List.take_zero, List.drop_succ_cons, List.drop_zero, List.reverse_cons, List.reverse_nil, List.nil_append, List.cons_append, List.append_nil, List.getElem?_cons_zero, List.getElem?_cons_succ, List.map_cons, List.map_nil, List.sum_cons, List.sum_nil, kx_cat_i, kx_cat_r, kx_cat_n, kx_cat_l, kx_cat_v, Nat.reduceAdd, Nat.reduceSub, Nat.reduceEqDiff, Nat.reduceLeDiff, Nat.reduceMul, Nat.reduceLT, Nat.add_zero, Nat.zero_add, Nat.sub_zero, Nat.sub_self, Nat.le_refl, Nat.zero_le, ↓reduceIte, not_true_eq_false, not_false_eq_true, or_true, true_or, or_false, false_or, Option.some.injEq, ne_eq, implies_true, forall_const, forall_eq', forall_eq, and_self, or_self, Bool.or_true, Bool.or_false, Bool.true_or, Bool.false_or, Bool.and_true, Bool.and_false, Bool.true_and, Bool.false_and, Option.toList_some, Option.toList_none, Nat.succ_ne_zero, false_implies, true_implies, kx_l0, kd_sI, kd_sR, kd_sA, kd_sL, fI_sI_eq, fI_sI_ne, fR_sI, aI_sI, mL_sI, ln_sI, fR_sR_eq, fR_sR_ne, fI_sR, aI_sR, mL_sR, ln_sR, fI_sA, fR_sA, mL_sA, ln_sA, fI_sL, fR_sL, aI_sL, ln_sL, Int32.reduceLT, Int32.reduceLE, z_01, z_02, z_12, kx_10, z_20, z_21, lo_L_lawZ_1086, lo_L_lawZ_1087, lo_L_lawZ_1090, lo_L_lawZ_1092, lo_L_lawZ_1093, lo_L_lawZ_1095, lo_L_lawZ_1097, lo_L_lawZ_1098, lo_L_lawZ_1099, lo_L_lawZ_1102, lo_L_lawZ_1105, lo_L_lawZ_1106, lo_L_lawZ_1108, lo_L_lawZ_1111, lo_L_lawZ_1113, lo_L_lawZ_1116, lo_L_lawZ_1117, lo_L_lawZ_1119, lo_L_lawZ_1122, lo_L_lawZ_1123, lo_L_lawZ_1126, lo_L_lawZ_1127, lo_L_lawZ_1128, lo_L_lawZ_1131, lo_L_lawZ_1134, lo_L_lawZ_1135, lo_L_lawZ_1138, lo_L_lawZ_1140, lo_L_lawZ_1141, lo_L_lawZ_1144, lo_L_lawZ_1145, lo_L_lawZ_1148, lo_L_lawZ_1149, f2_X9_many]
  exact hn
end LE
