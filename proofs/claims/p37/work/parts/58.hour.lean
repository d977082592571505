theorem kd_eHour (m : Nat) (M : kx_M) : kd (eHour m M) = kd M := by
  unfold eHour
  show kd (List.foldl eLoseT (List.foldl eLose (List.foldl ePay (List.foldl (eGrowC m) (if _ then _ else _) _) _) _) _) = _
  rw [kd_eLoseTs, kd_eLoses, kd_ePays, kd_eGrows]
  split
  · rw [kd_eDays, kd_sI]
  · rw [kd_sI]
theorem fR_eHour (m : Nat) (M : kx_M) : fR (eHour m M) = fR M := by
  unfold eHour
  show fR (List.foldl eLoseT (List.foldl eLose (List.foldl ePay (List.foldl (eGrowC m) (if _ then _ else _) _) _) _) _) = _
  rw [fR_eLoseTs, fR_eLoses, fR_ePays, fR_eGrows]
  split
  · rw [fR_eDays, fR_sI]
  · rw [fR_sI]
theorem mL_eHour (m : Nat) (M : kx_M) : mL (eHour m M) = mL M := by
  unfold eHour
  show mL (List.foldl eLoseT (List.foldl eLose (List.foldl ePay (List.foldl (eGrowC m) (if _ then _ else _) _) _) _) _) = _
  rw [mL_eLoseTs, mL_eLoses, mL_ePays, mL_eGrows]
  split
  · rw [mL_eDays, mL_sI]
  · rw [mL_sI]
theorem fI_eHour_213 (m : Nat) (M : kx_M) (x : Nat) : fI (eHour m M) 213 x = fI M 213 x := by
  unfold eHour
  show fI (List.foldl eLoseT (List.foldl eLose (List.foldl ePay (List.foldl (eGrowC m) (if _ then _ else _) _) _) _) _) 213 x = _
  have hg : ∀ (M : kx_M) (c : Nat) (v : Int32), fI (eGrow M c v) 213 = fI M 213 := fun M c v => funext fun y => by
    unfold eGrow
    show fI (sI (if _ then _ else _) 85 c _) 213 y = _
    rw [fI_sI_ne _ _ _ _ _ _ (by decide)]
    split
    · rw [fI_sI_ne _ _ _ _ _ _ (by decide)]
    · rw [fI_sI_ne _ _ _ _ _ _ (by decide), fI_sI_ne _ _ _ _ _ _ (by decide)]
  rw [foldl_fI (i := 213) (f := eLoseT) (fun M x a => by unfold eLoseT; exact fI_sI_ne _ _ _ _ _ _ (by decide)), foldl_fI (i := 213) (f := eLose) (fun M x a => by
    unfold eLose
    split
    · exact (Eq.refl _)
    · exact fI_sI_ne _ _ _ _ _ _ (by decide)), foldl_fI (i := 213) (f := ePay) (fun M x a => by unfold ePay; exact fI_sI_ne _ _ _ _ _ _ (by decide)), foldl_fI (i := 213) (f := eGrowC m) (fun M x a => by unfold eGrowC; rw [hg])]
  split
  · rw [fI_eDays, fI_sI_ne _ _ _ _ _ _ (by decide)]
  · rw [fI_sI_ne _ _ _ _ _ _ (by decide)]
theorem pRail_to {M N : kx_M} {m : Nat} (h : pRail M m) (hk : kd N = kd M) (hR : fR N = fR M) (hL : mL N = mL M) : pRail N m := by
  unfold pRail at h ⊢; rw [hk, hR, hL]; exact h
theorem pGros_to {M N : kx_M} {m : Nat} (h : pGros M m) (hk : kd N = kd M) (hR : fR N = fR M) (hL : mL N = mL M) : pGros N m := by
  unfold pGros at h ⊢; rw [hk, hR, hL]; exact h
theorem pCrops_to {M N : kx_M} {m : Nat} (h : pCrops M m) (hk : kd N = kd M) (hR : fR N = fR M) (hL : mL N = mL M) : pCrops N m := by
  unfold pCrops at h ⊢; rw [hk, hR, hL]; exact h
theorem pLots_to {M N : kx_M} {m : Nat} (h : pLots M m) (hk : kd N = kd M) (hR : fR N = fR M) (hL : mL N = mL M) : pLots N m := by
  unfold pLots at h ⊢; rw [hk, hR, hL]; exact h
set_option maxRecDepth 16000 in
theorem f2_X9_passOneHour_ok (E : kx_E) {av : List Value} {M : kx_M} (h : (f2_X9_passOneHour E av M).1) : c2t_X9_passOneHour E av M 0 0 (fun v M1 => v.toList = (f2_X9_passOneHour E av M).2.1 ∧ M1 = (f2_X9_passOneHour E av M).2.2) := by
  revert h
  unfold f2_X9_passOneHour
  split
  · rename_i m
    intro h
    obtain ⟨hg, hc, hl, hr, hs⟩ := h
    have h1 := hg.1
    have es : fI (eHour m M) 213 m = 2 := by rw [fI_eHour_213, hs]
    have er : pRail (eHour m M) m = True := eq_true (pRail_to hr (kd_eHour _ _) (fR_eHour _ _) (mL_eHour _ _))
    refine en_X9_passOneHour E (Nat.le_of_ble_eq_true rfl) (fun G hG => kx_run_ok hG (kx_in [24]) 60 _ _ _ _ _ _ ?_)
    simp only [kx_run_s, kx_run_z, kx_in, kx_beq, decide_true, decide_false, cond_true, cond_false, t_push, t_il, t_ll, t_al, t_is, t_ls, t_as, t_inc, t_bin, t_dv, t_lbin, t_lcmp, t_itl, t_dup, t_pop, t_dupx, t_go, t_gk, cutL, t_if, t_ic, t_nul, t_acmp, t_gI, t_gR, t_pI, t_pZ, t_pR, t_new, t_nwa, t_ial, t_ias, t_aln, t_cst, t_sln, t_sld, t_iret, t_zret, t_lret, t_aret, t_vret, t_no, t_call, t_fun, t_sw, sw_to0, t_oin, t_mm, t_qal, t_qas, t_qln, t_nwq, t_gcl, t_acp, lk, up1, cl1, up2, cl2, kx_c2, lv_args, kx_sum, kx_isr_r, kx_isr_n, kx_isr_v, kx_ex_r, kx_ex_n, kx_ex_v, kx_ex2_r, kx_ex2_n, kx_ex2_v, va_rf_s, va_rf_n, Value.ref.injEq, reduceCtorEq, exists_eq_left', exists_eq_left, exists_eq', exists_eq, true_and, and_true, false_and, and_false, List.length_cons, List.length_nil, List.take_succ_cons, List.take_zero, List.drop_succ_cons, List.drop_zero, List.reverse_cons, List.reverse_nil, List.nil_append, List.cons_append, List.append_nil, List.getElem?_cons_zero, List.getElem?_cons_succ, List.map_cons, List.map_nil, List.sum_cons, List.sum_nil, kx_cat_i, kx_cat_r, kx_cat_n, kx_cat_l, kx_cat_v, Nat.reduceAdd, Nat.reduceSub, Nat.reduceEqDiff, Nat.reduceLeDiff, Nat.reduceMul, Nat.reduceLT, Nat.add_zero, Nat.zero_add, Nat.sub_zero, Nat.sub_self, Nat.le_refl, Nat.zero_le, ↓reduceIte, not_true_eq_false, not_false_eq_true, or_true, true_or, or_false, false_or, Option.some.injEq, ne_eq, implies_true, forall_const, forall_eq', forall_eq, and_self, or_self, Bool.or_true, Bool.or_false, Bool.true_or, Bool.false_or, Bool.and_true, Bool.and_false, Bool.true_and, Bool.false_and, Option.toList_some, Option.toList_none, Nat.succ_ne_zero, false_implies, true_implies, kx_l0, kd_sI, kd_sR, kd_sA, kd_sL, fI_sI_eq, fI_sI_ne, fR_sI, aI_sI, mL_sI, ln_sI, fR_sR_eq, fR_sR_ne, fI_sR, aI_sR, mL_sR, ln_sR, fI_sA, fR_sA, mL_sA, ln_sA, fI_sL, fR_sL, aI_sL, ln_sL, lo_X9_passOneHour_0, lo_X9_passOneHour_1, lo_X9_passOneHour_2, lo_X9_passOneHour_5, lo_X9_passOneHour_6, lo_X9_passOneHour_7, lo_X9_passOneHour_10, lo_X9_passOneHour_11, lo_X9_passOneHour_14, lo_X9_passOneHour_16, lo_X9_passOneHour_17, lo_X9_passOneHour_20, lo_X9_passOneHour_21, lo_X9_passOneHour_24, lo_X9_passOneHour_25, lo_X9_passOneHour_28, lo_X9_passOneHour_29, lo_X9_passOneHour_32, lo_X9_passOneHour_33, lo_X9_passOneHour_36, lo_X9_passOneHour_37, lo_X9_passOneHour_40, f2_X9_beginDay, f2_X9_growCrops, f2_X9_payForLamps, f2_X9_loseLife, f2_X9_runRail, h1]
    have key : ∀ (M2 : kx_M), M2 = (if fI M 210 m + 1 - (fI M 210 m + 1) / 24 * 24 = 0 then (mL M (rf M 200 m)).foldl eDay (sI M 210 m (fI M 210 m + 1)) else sI M 210 m (fI M 210 m + 1)) → kd M2 = kd M → fR M2 = fR M → mL M2 = mL M → G 0 0 24 [(0, .ref m)] [] M2 := by
      intro M2 hM2 hk hR hL
      have hE : eHour m M = (mL M (rf M 206 m)).foldl eLoseT ((mL M (rf M 202 m)).foldl eLose ((mL M (rf M 200 m)).foldl ePay ((mL M (rf M 201 m)).foldl (eGrowC m) M2))) := by
        unfold eHour
        rw [hM2]
      have k1 : kd M2 m = 11 := by rw [hk, h1]
      have e1 : pCrops M2 m = True := eq_true (pCrops_to hc hk hR hL)
      have r1 : rf M2 201 m = rf M 201 m := by unfold rf; rw [hR]
      generalize hA : (mL M (rf M 201 m)).foldl (eGrowC m) M2 = A at hE
      have hkA : kd A = kd M := by rw [← hA, kd_eGrows, hk]
      have hRA : fR A = fR M := by rw [← hA, fR_eGrows, hR]
      have hLA : mL A = mL M := by rw [← hA, mL_eGrows, hL]
      have e2 : pGros A m = True := eq_true (pGros_to hg hkA hRA hLA)
      have r2 : rf A 200 m = rf M 200 m := by unfold rf; rw [hRA]
      generalize hB : (mL M (rf M 200 m)).foldl ePay A = B at hE
      have hkB : kd B = kd M := by rw [← hB, kd_ePays, hkA]
      have hRB : fR B = fR M := by rw [← hB, fR_ePays, hRA]
      have hLB : mL B = mL M := by rw [← hB, mL_ePays, hLA]
      have e3 : pLots B m = True := eq_true (pLots_to hl hkB hRB hLB)
      have e4 : pRail B m = True := eq_true (pRail_to hr hkB hRB hLB)
      have r3 : rf B 202 m = rf M 202 m := by unfold rf; rw [hRB]
      have r4 : rf B 206 m = rf M 206 m := by unfold rf; rw [hRB]
      have kA : kd A m = 11 := by rw [hkA, h1]
      have kB : kd B m = 11 := by rw [hkB, h1]
      have kE : kd (eHour m M) m = 11 := by rw [kd_eHour, h1]
      rw [hE] at es er kE
      refine kx_run_ok hG (kx_in [24]) 60 _ _ _ _ _ _ ?_
      simp only [kx_run_s, kx_run_z, kx_in, kx_beq, decide_true, decide_false, cond_true, cond_false, t_push, t_il, t_ll, t_al, t_is, t_ls, t_as, t_inc, t_bin, t_dv, t_lbin, t_lcmp, t_itl, t_dup, t_pop, t_dupx, t_go, t_gk, cutL, t_if, t_ic, t_nul, t_acmp, t_gI, t_gR, t_pI, t_pZ, t_pR, t_new, t_nwa, t_ial, t_ias, t_aln, t_cst, t_sln, t_sld, t_iret, t_zret, t_lret, t_aret, t_vret, t_no, t_call, t_fun, t_sw, sw_to0, t_oin, t_mm, t_qal, t_qas, t_qln, t_nwq, t_gcl, t_acp, lk, up1, cl1, up2, cl2, kx_c2, lv_args, kx_sum, kx_isr_r, kx_isr_n, kx_isr_v, kx_ex_r, kx_ex_n, kx_ex_v, kx_ex2_r, kx_ex2_n, kx_ex2_v, va_rf_s, va_rf_n, Value.ref.injEq, reduceCtorEq, exists_eq_left', exists_eq_left, exists_eq', exists_eq, true_and, and_true, false_and, and_false, List.length_cons, List.length_nil, List.take_succ_cons, List.take_zero, List.drop_succ_cons, List.drop_zero, List.reverse_cons, List.reverse_nil, List.nil_append, List.cons_append, List.append_nil, List.getElem?_cons_zero, List.getElem?_cons_succ, List.map_cons, List.map_nil, List.sum_cons, List.sum_nil, kx_cat_i, kx_cat_r, kx_cat_n, kx_cat_l, kx_cat_v, Nat.reduceAdd, Nat.reduceSub, Nat.reduceEqDiff, Nat.reduceLeDiff, Nat.reduceMul, Nat.reduceLT, Nat.add_zero, Nat.zero_add, Nat.sub_zero, Nat.sub_self, Nat.le_refl, Nat.zero_le, ↓reduceIte, not_true_eq_false, not_false_eq_true, or_true, true_or, or_false, false_or, Option.some.injEq, ne_eq, implies_true, forall_const, forall_eq', forall_eq, and_self, or_self, Bool.or_true, Bool.or_false, Bool.true_or, Bool.false_or, Bool.and_true, Bool.and_false, Bool.true_and, Bool.false_and, Option.toList_some, Option.toList_none, Nat.succ_ne_zero, false_implies, true_implies, kx_l0, kd_sI, kd_sR, kd_sA, kd_sL, fI_sI_eq, fI_sI_ne, fR_sI, aI_sI, mL_sI, ln_sI, fR_sR_eq, fR_sR_ne, fI_sR, aI_sR, mL_sR, ln_sR, fI_sA, fR_sA, mL_sA, ln_sA, fI_sL, fR_sL, aI_sL, ln_sL, lo_X9_passOneHour_0, lo_X9_passOneHour_1, lo_X9_passOneHour_2, lo_X9_passOneHour_5, lo_X9_passOneHour_6, lo_X9_passOneHour_7, lo_X9_passOneHour_10, lo_X9_passOneHour_11, lo_X9_passOneHour_14, lo_X9_passOneHour_16, lo_X9_passOneHour_17, lo_X9_passOneHour_20, lo_X9_passOneHour_21, lo_X9_passOneHour_24, lo_X9_passOneHour_25, lo_X9_passOneHour_28, lo_X9_passOneHour_29, lo_X9_passOneHour_32, lo_X9_passOneHour_33, lo_X9_passOneHour_36, lo_X9_passOneHour_37, lo_X9_passOneHour_40, f2_X9_beginDay, f2_X9_growCrops, f2_X9_payForLamps, f2_X9_loseLife, f2_X9_runRail, k1, e1, hL, r1, hA, kA, e2, hLA, r2, hB, kB, e3, e4, hLB, r3, r4]
      rw [hE]
      exact ⟨⟨of_eq_true er, es⟩, rfl, rfl⟩
    refine ⟨by decide, fun z => ?_, fun z => ⟨pGros_to hg (kd_sI _ _ _ _) (fR_sI _ _ _ _) (mL_sI _ _ _ _), ?_⟩⟩
    · exact key _ (by rw [if_neg z]) (kd_sI _ _ _ _) (fR_sI _ _ _ _) (mL_sI _ _ _ _)
    · have z' := Decidable.not_not.mp z
      have r0 : rf (sI M 210 m (fI M 210 m + 1)) 200 m = rf M 200 m := by unfold rf; rw [fR_sI]
      rw [r0]
      exact key _ (by rw [if_pos z']) (by rw [kd_eDays, kd_sI]) (by rw [fR_eDays, fR_sI]) (by rw [mL_eDays, mL_sI])
  · intro h; exact h.elim
theorem f2_X9_passOneHour_rc (E : kx_E) {av : List Value} {M : kx_M} (h : (f2_X9_passOneHour E av M).1) : ∃ (a : Nat) (as : List Value), av = .ref a :: as ∧ kd M a = 11 := by
  unfold f2_X9_passOneHour at h
  split at h
  · exact ⟨_, _, rfl, h.1.1⟩
  · exact h.elim
