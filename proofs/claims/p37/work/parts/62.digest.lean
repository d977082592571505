theorem vDTrade_off {M N : kx_M} {m : Nat} (h : pOff M N) (d : Int64) : vDTrade N m d = vDTrade M m d := by
  obtain ⟨⟨-, hL, hR, hA, -⟩, hI⟩ := h
  have hr : ∀ i x, rf N i x = rf M i x := fun i x => by unfold rf; rw [hR]
  have e1 : ∀ b, vBuyer N b = vBuyer M b := fun b => funext fun w => by
    unfold vBuyer bcv
    rw [hr, hA, hI 23 b (by unfold rn; omega), hI 21 b (by unfold rn; omega), hI 24 b (by unfold rn; omega), hI 25 b (by unfold rn; omega), hI 26 b (by unfold rn; omega), hI 27 b (by unfold rn; omega)]
  have e2 : ∀ s, vSale N s = vSale M s := fun s => funext fun w => by
    unfold vSale
    rw [hr, hr, hI 120 _ (by unfold rn; omega), hI 20 _ (by unfold rn; omega), hI 163 s (by unfold rn; omega), hI 164 s (by unfold rn; omega), hI 165 s (by unfold rn; omega)]
  have f1 : vBu1 N = vBu1 M := funext fun d => funext fun b => by unfold vBu1; rw [e1]
  have f2 : vOr1 N = vOr1 M := funext fun d => funext fun o => by unfold vOr1; rw [hI 146 o (by unfold rn; omega)]
  have f3 : vSa1 N = vSa1 M := funext fun d => funext fun s => by unfold vSa1; rw [e2]
  unfold vDTrade
  rw [hr, hr, hr, hL, f1, f2, f3]
theorem vRow_off {M N : kx_M} {m : Nat} (h : pOff M N) : vRow N m = vRow M m := funext fun w => by
  obtain ⟨⟨-, hL, hR, hA, -⟩, hI⟩ := h
  have hr : ∀ i x, rf N i x = rf M i x := fun i x => by unfold rf; rw [hR]
  unfold vRow
  rw [hr, hL]
  split
  · exact (Eq.refl _)
  · split
    · exact (Eq.refl _)
    · cases (mL M (rf M 203 m))[w.toNatClampNeg]? with
      | none => exact (Eq.refl _)
      | some x => exact hI 120 x (by unfold rn; omega)
theorem vFew_off {M N : kx_M} {m : Nat} (h : pOff M N) (c x : Int32) : vFew N m c x = vFew M m c x := by
  unfold vFew
  rw [h.2 211 m (by unfold rn; omega)]
theorem vDGrow_off {M N : kx_M} {m : Nat} (h : pOff M N) (d : Int64) : vDGrow N m d = vDGrow M m d := by
  obtain ⟨⟨-, hL, hR, hA, -⟩, hI⟩ := h
  have hr : ∀ i x, rf N i x = rf M i x := fun i x => by unfold rf; rw [hR]
  have e1 : ∀ b, vGrower N b = vGrower M b := fun b => funext fun w => by
    unfold vGrower
    rw [hr, hA, hI 101 b (by unfold rn; omega), hI 102 b (by unfold rn; omega), hI 103 b (by unfold rn; omega), hI 104 b (by unfold rn; omega)]
  have e2 : ∀ b, vCrop N b = vCrop M b := fun b => funext fun w => by
    unfold vCrop
    rw [hI 81 b (by unfold rn; omega), hI 82 b (by unfold rn; omega), hI 83 b (by unfold rn; omega), hI 84 b (by unfold rn; omega), hI 85 b (by unfold rn; omega), hI 86 b (by unfold rn; omega)]
  have e3 : ∀ c, vReady N m c = vReady M m c := fun c => by
    unfold vReady
    rw [hr, hI 85 c (by unfold rn; omega), hI 211 m (by unfold rn; omega), hI 102 _ (by unfold rn; omega), hI 82 c (by unfold rn; omega), hI 84 c (by unfold rn; omega)]
  have f1 : vGr1 N = vGr1 M := funext fun d => funext fun b => by unfold vGr1; rw [e1]
  have f2 : vCr1 N m = vCr1 M m := funext fun d => funext fun o => by unfold vCr1; rw [e2, e3]
  unfold vDGrow
  rw [hr, hr, hL, f1, f2]
theorem vHall_off {M N : kx_M} {m : Nat} (h : pOff M N) : vHall N m = vHall M m := funext fun w => by
  obtain ⟨⟨-, hL, hR, hA, -⟩, hI⟩ := h
  have hr : ∀ i x, rf N i x = rf M i x := fun i x => by unfold rf; rw [hR]
  have e1 : ∀ f, vLen N f m = vLen M f m := fun f => by unfold vLen; rw [hr, hL]
  have e2 : vLeastR N m = vLeastR M m := by
    unfold vLeastR vLeast
    rw [hr, hL]
    have : (fun (x : Int32) (q : Nat) => vMin x (fI N 183 q)) = (fun x q => vMin x (fI M 183 q)) := funext fun x => funext fun q => by rw [hI 183 q (by unfold rn; omega)]
    rw [this]
  unfold vHall bcv
  rw [hr, hA, e1, e1, e1, e1, e1, e1, e1, e2, hI 210 m (by unfold rn; omega), hI 212 m (by unfold rn; omega), hI 214 m (by unfold rn; omega), hI 215 m (by unfold rn; omega), hI 216 m (by unfold rn; omega)]
theorem vDLots_off {M N : kx_M} {m : Nat} (h : pOff M N) (hb : ∀ x ∈ mL M (rf M 202 m), pBnd M x (rf M 204 m) (rf M 205 m)) (d : Int64) : vDLots N m d = vDLots M m d := by
  have hr : ∀ i x, rf N i x = rf M i x := fun i x => by unfold rf; rw [h.1.2.2.1]
  unfold vDLots
  rw [hr, h.1.2.1]
  have key : ∀ (l : List Nat) (d : Int64), (∀ x ∈ l, pBnd M x (rf M 204 m) (rf M 205 m)) → l.foldl (vLo1 N m) d = l.foldl (vLo1 M m) d := by
    intro l
    induction l with
    | nil => intro d _; rw [List.foldl_nil, List.foldl_nil]
    | cons x l ih =>
      intro d hl
      have e : vLo1 N m d x = vLo1 M m d x := by
        unfold vLo1
        rw [vLot_off h, vFP_eq (h.aW (hl x List.mem_cons_self)), vLP_eq (h.aW (hl x List.mem_cons_self))]
      rw [List.foldl_cons, List.foldl_cons, e]
      exact ih _ (fun y hy => hl y (List.mem_cons_of_mem _ hy))
  exact key _ d hb
theorem vDig_off {M N : kx_M} {m : Nat} (h : pOff M N) (hb : ∀ x ∈ mL M (rf M 202 m), pBnd M x (rf M 204 m) (rf M 205 m)) : vDig N m = vDig M m := by
  unfold vDig
  have e : (fun c => vFew N m c 12) = (fun c => vFew M m c 12) := funext fun c => vFew_off h c 12
  rw [e, vRow_off h, vHall_off h, vDGrow_off h, vDLots_off h hb, vDTrade_off h]
/-- the first, the second .. of a short sum -/
theorem fo_3 (f : Int32 → Int32) (d : Int64) : fo f 3 0 d = ((d * 31 + (f 0).toInt64) * 31 + (f (0 + 1)).toInt64) * 31 + (f (0 + 1 + 1)).toInt64 := by
  have e0 : nI 0 = 0 := by decide
  have e1 : nI 1 = 0 + 1 := by decide
  have e2 : nI 2 = 0 + 1 + 1 := by decide
  rw [fo_s, fo_s, fo_s, fo_0, e0, e1, e2]
  unfold mx
  exact (Eq.refl _)
set_option maxRecDepth 16000 in
theorem c2_X9_digest (E : kx_E) {M : kx_M} {m t : Nat} (h0 : pHall M m) (hg : pGros M m) (hc : pCrops M m) (h2 : fR M 202 m = some t) (h3 : kd M t = 1) (h4 : (mL M t).length ≤ 1000) (h5 : ∀ x ∈ mL M t, kd M x = 7 ∧ pRun M m x ∧ pBnd M x (rf M 204 m) (rf M 205 m)) (ht : pTrade M m) (hrow : ∃ t, fR M 203 m = some t ∧ kd M t = 1 ∧ (mL M t).length ≤ 1000 ∧ ∀ x ∈ mL M t, kd M x = 7) : c2t_X9_digest E [.ref m] M 0 0 (fun v M1 => v = some (.long (vDig M m)) ∧ pOff M M1) := by
  have h1 := h0.1
  have eh := eq_true h0
  have eg := eq_true hg
  have ec := eq_true hc
  refine en_X9_digest E (Nat.le_of_ble_eq_true rfl) (fun G hG => kx_run_ok hG (kx_in [40, 6, 29, 49, 73]) 20 _ _ _ _ _ _ ?_)
  simp only [kx_run_s, kx_run_z, kx_in, kx_beq, decide_true, decide_false, cond_true, cond_false, t_push, t_il, t_ll, t_al, t_is, t_ls, t_as, t_inc, t_bin, t_dv, t_lbin, t_lcmp, t_itl, t_dup, t_pop, t_dupx, t_go, t_gk, cutL, t_if, t_ic, t_nul, t_acmp, t_gI, t_gR, t_pI, t_pZ, t_pR, t_new, t_nwa, t_ial, t_ias, t_aln, t_cst, t_sln, t_sld, t_iret, t_zret, t_lret, t_aret, t_vret, t_no, t_call, t_fun, t_sw, sw_to0, t_oin, t_mm, t_qal, t_qas, t_qln, t_nwq, t_gcl, t_acp, lk, up1, cl1, up2, cl2, kx_c2, lv_args, kx_sum, kx_isr_r, kx_isr_n, kx_isr_v, kx_ex_r, kx_ex_n, kx_ex_v, kx_ex2_r, kx_ex2_n, kx_ex2_v, va_rf_s, va_rf_n, Value.ref.injEq, reduceCtorEq, exists_eq_left', exists_eq_left, exists_eq', exists_eq, true_and, and_true, false_and, and_false, List.length_cons, List.length_nil, List.take_succ_cons, List.take_zero, List.drop_succ_cons, List.drop_zero, List.reverse_cons, List.reverse_nil, List.nil_append, List.cons_append, List.append_nil, List.getElem?_cons_zero, List.getElem?_cons_succ, List.map_cons, List.map_nil, List.sum_cons, List.sum_nil, kx_cat_i, kx_cat_r, kx_cat_n, kx_cat_l, kx_cat_v, Nat.reduceAdd, Nat.reduceSub, Nat.reduceEqDiff, Nat.reduceLeDiff, Nat.reduceMul, Nat.reduceLT, Nat.add_zero, Nat.zero_add, Nat.sub_zero, Nat.sub_self, Nat.le_refl, Nat.zero_le, ↓reduceIte, not_true_eq_false, not_false_eq_true, or_true, true_or, or_false, false_or, Option.some.injEq, ne_eq, implies_true, forall_const, forall_eq', forall_eq, and_self, or_self, Bool.or_true, Bool.or_false, Bool.true_or, Bool.false_or, Bool.and_true, Bool.and_false, Bool.true_and, Bool.false_and, Option.toList_some, Option.toList_none, Nat.succ_ne_zero, false_implies, true_implies, kx_l0, kd_sI, kd_sR, kd_sA, kd_sL, fI_sI_eq, fI_sI_ne, fR_sI, aI_sI, mL_sI, ln_sI, fR_sR_eq, fR_sR_ne, fI_sR, aI_sR, mL_sR, ln_sR, fI_sA, fR_sA, mL_sA, ln_sA, fI_sL, fR_sL, aI_sL, ln_sL, lo_X9_digest_0, lo_X9_digest_3, lo_X9_digest_4, lo_X9_digest_5, lo_X9_digest_6, lo_X9_digest_7, lo_X9_digest_9, lo_X9_digest_12, lo_X9_digest_13, lo_X9_digest_14, lo_X9_digest_15, lo_X9_digest_18, lo_X9_digest_19, lo_X9_digest_22, lo_X9_digest_23, lo_X9_digest_26, lo_X9_digest_29, lo_X9_digest_30, lo_X9_digest_31, lo_X9_digest_34, lo_X9_digest_35, lo_X9_digest_36, lo_X9_digest_37, lo_X9_digest_40, lo_X9_digest_41, lo_X9_digest_42, lo_X9_digest_43, lo_X9_digest_46, lo_X9_digest_47, lo_X9_digest_48, lo_X9_digest_49, lo_X9_digest_50, lo_X9_digest_51, lo_X9_digest_54, lo_X9_digest_55, lo_X9_digest_56, lo_X9_digest_57, lo_X9_digest_60, lo_X9_digest_61, lo_X9_digest_64, lo_X9_digest_65, lo_X9_digest_68, lo_X9_digest_71, lo_X9_digest_72, lo_X9_digest_73, lo_X9_digest_74, lo_X9_digest_75, lo_X9_digest_78, lo_X9_digest_79, lo_X9_digest_80, lo_X9_digest_81, lo_X9_digest_83, lo_X9_digest_86, lo_X9_digest_87, lo_X9_digest_90, lo_X9_digest_91, lo_X9_digest_94, lo_X9_digest_97, lo_X9_digest_98, f2_X9_numberOfHall, f2_X9_mixed, f2_X9_mixedWithGrowing, f2_X9_mixedWithTrade, f2_X9_lotInRow, f2_X9_fewestLamps]
  have lp3 : ∀ (N : kx_M) (d1 : Int64), pOff M N → d1 = fo (vRow M m) 3 0 (vDTrade M m (vDLots M m (vDGrow M m (fo (vHall M m) 16 0 58185)))) → G 0 0 73 [(1, .long d1), (0, .ref m), (3, .int 0)] [] N := by
    intro N d1 hN hd
    have k1 : kd N m = 11 := by rw [hN.1.1, h1]
    have b0 : ((3 : Int32) ≤ 0) = False := by decide
    have b1 : ((3 : Int32) ≤ 0 + 1) = False := by decide
    have b2 : ((3 : Int32) ≤ 0 + 1 + 1) = False := by decide
    have b3 : ((3 : Int32) ≤ 0 + 1 + 1 + 1) = True := by decide
    have hf : ∀ c, vFew N m c 12 = vFew M m c 12 := fun c => vFew_off hN c 12
    refine kx_run_ok hG (kx_in [40, 6, 29, 49]) 60 _ _ _ _ _ _ ?_
    simp only [kx_run_s, kx_run_z, kx_in, kx_beq, decide_true, decide_false, cond_true, cond_false, t_push, t_il, t_ll, t_al, t_is, t_ls, t_as, t_inc, t_bin, t_dv, t_lbin, t_lcmp, t_itl, t_dup, t_pop, t_dupx, t_go, t_gk, cutL, t_if, t_ic, t_nul, t_acmp, t_gI, t_gR, t_pI, t_pZ, t_pR, t_new, t_nwa, t_ial, t_ias, t_aln, t_cst, t_sln, t_sld, t_iret, t_zret, t_lret, t_aret, t_vret, t_no, t_call, t_fun, t_sw, sw_to0, t_oin, t_mm, t_qal, t_qas, t_qln, t_nwq, t_gcl, t_acp, lk, up1, cl1, up2, cl2, kx_c2, lv_args, kx_sum, kx_isr_r, kx_isr_n, kx_isr_v, kx_ex_r, kx_ex_n, kx_ex_v, kx_ex2_r, kx_ex2_n, kx_ex2_v, va_rf_s, va_rf_n, Value.ref.injEq, reduceCtorEq, exists_eq_left', exists_eq_left, exists_eq', exists_eq, true_and, and_true, false_and, and_false, List.length_cons, List.length_nil, List.take_succ_cons, List.take_zero, List.drop_succ_cons, List.drop_zero, List.reverse_cons, List.reverse_nil, List.nil_append, List.cons_append, List.append_nil, List.getElem?_cons_zero, List.getElem?_cons_succ, List.map_cons, List.map_nil, List.sum_cons, List.sum_nil, kx_cat_i, kx_cat_r, kx_cat_n, kx_cat_l, kx_cat_v, Nat.reduceAdd, Nat.reduceSub, Nat.reduceEqDiff, Nat.reduceLeDiff, Nat.reduceMul, Nat.reduceLT, Nat.add_zero, Nat.zero_add, Nat.sub_zero, Nat.sub_self, Nat.le_refl, Nat.zero_le, ↓reduceIte, not_true_eq_false, not_false_eq_true, or_true, true_or, or_false, false_or, Option.some.injEq, ne_eq, implies_true, forall_const, forall_eq', forall_eq, and_self, or_self, Bool.or_true, Bool.or_false, Bool.true_or, Bool.false_or, Bool.and_true, Bool.and_false, Bool.true_and, Bool.false_and, Option.toList_some, Option.toList_none, Nat.succ_ne_zero, false_implies, true_implies, kx_l0, kd_sI, kd_sR, kd_sA, kd_sL, fI_sI_eq, fI_sI_ne, fR_sI, aI_sI, mL_sI, ln_sI, fR_sR_eq, fR_sR_ne, fI_sR, aI_sR, mL_sR, ln_sR, fI_sA, fR_sA, mL_sA, ln_sA, fI_sL, fR_sL, aI_sL, ln_sL, lo_X9_digest_0, lo_X9_digest_3, lo_X9_digest_4, lo_X9_digest_5, lo_X9_digest_6, lo_X9_digest_7, lo_X9_digest_9, lo_X9_digest_12, lo_X9_digest_13, lo_X9_digest_14, lo_X9_digest_15, lo_X9_digest_18, lo_X9_digest_19, lo_X9_digest_22, lo_X9_digest_23, lo_X9_digest_26, lo_X9_digest_29, lo_X9_digest_30, lo_X9_digest_31, lo_X9_digest_34, lo_X9_digest_35, lo_X9_digest_36, lo_X9_digest_37, lo_X9_digest_40, lo_X9_digest_41, lo_X9_digest_42, lo_X9_digest_43, lo_X9_digest_46, lo_X9_digest_47, lo_X9_digest_48, lo_X9_digest_49, lo_X9_digest_50, lo_X9_digest_51, lo_X9_digest_54, lo_X9_digest_55, lo_X9_digest_56, lo_X9_digest_57, lo_X9_digest_60, lo_X9_digest_61, lo_X9_digest_64, lo_X9_digest_65, lo_X9_digest_68, lo_X9_digest_71, lo_X9_digest_72, lo_X9_digest_73, lo_X9_digest_74, lo_X9_digest_75, lo_X9_digest_78, lo_X9_digest_79, lo_X9_digest_80, lo_X9_digest_81, lo_X9_digest_83, lo_X9_digest_86, lo_X9_digest_87, lo_X9_digest_90, lo_X9_digest_91, lo_X9_digest_94, lo_X9_digest_97, lo_X9_digest_98, f2_X9_numberOfHall, f2_X9_mixed, f2_X9_mixedWithGrowing, f2_X9_mixedWithTrade, f2_X9_lotInRow, f2_X9_fewestLamps, k1, b0, b1, b2, b3, hf]
    refine ⟨?_, hN⟩
    unfold vDig
    rw [fo_3 (fun c => vFew M m c 12), ← hd]
  have lp2 : ∀ (N : kx_M) (d1 : Int64), pOff M N → d1 = vDTrade M m (vDLots M m (vDGrow M m (fo (vHall M m) 16 0 58185))) → G 0 0 49 [(1, .long d1), (0, .ref m), (3, .int 0)] [] N := by
    intro N d1 hN hd
    have k1 : kd N m = 11 := by rw [hN.1.1, h1]
    have b0 : ((2 : Int32) < 0) = False := by decide
    have b1 : ((2 : Int32) < 0 + 1) = False := by decide
    have b2 : ((2 : Int32) < 0 + 1 + 1) = False := by decide
    have b3 : ((2 : Int32) < 0 + 1 + 1 + 1) = True := by decide
    have hf : vRow N m = vRow M m := vRow_off hN
    have hr : (∃ t, fR N 203 m = some t ∧ kd N t = 1 ∧ (mL N t).length ≤ 1000 ∧ ∀ x ∈ mL N t, kd N x = 7) = True := eq_true (by rw [hN.1.1, hN.1.2.1, hN.1.2.2.1]; exact hrow)
    have hn := lp3 N (fo (vRow M m) 3 0 d1) hN (by rw [hd])
    rw [fo_3] at hn
    refine kx_run_ok hG (kx_in [40, 6, 29, 73]) 60 _ _ _ _ _ _ ?_
    simp only [kx_run_s, kx_run_z, kx_in, kx_beq, decide_true, decide_false, cond_true, cond_false, t_push, t_il, t_ll, t_al, t_is, t_ls, t_as, t_inc, t_bin, t_dv, t_lbin, t_lcmp, t_itl, t_dup, t_pop, t_dupx, t_go, t_gk, cutL, t_if, t_ic, t_nul, t_acmp, t_gI, t_gR, t_pI, t_pZ, t_pR, t_new, t_nwa, t_ial, t_ias, t_aln, t_cst, t_sln, t_sld, t_iret, t_zret, t_lret, t_aret, t_vret, t_no, t_call, t_fun, t_sw, sw_to0, t_oin, t_mm, t_qal, t_qas, t_qln, t_nwq, t_gcl, t_acp, lk, up1, cl1, up2, cl2, kx_c2, lv_args, kx_sum, kx_isr_r, kx_isr_n, kx_isr_v, kx_ex_r, kx_ex_n, kx_ex_v, kx_ex2_r, kx_ex2_n, kx_ex2_v, va_rf_s, va_rf_n, Value.ref.injEq, reduceCtorEq, exists_eq_left', exists_eq_left, exists_eq', exists_eq, true_and, and_true, false_and, and_false, List.length_cons, List.length_nil, List.take_succ_cons, List.take_zero, List.drop_succ_cons, List.drop_zero, List.reverse_cons, List.reverse_nil, List.nil_append, List.cons_append, List.append_nil, List.getElem?_cons_zero, List.getElem?_cons_succ, List.map_cons, List.map_nil, List.sum_cons, List.sum_nil, kx_cat_i, kx_cat_r, kx_cat_n, kx_cat_l, kx_cat_v, Nat.reduceAdd, Nat.reduceSub, Nat.reduceEqDiff, Nat.reduceLeDiff, Nat.reduceMul, Nat.reduceLT, Nat.add_zero, Nat.zero_add, Nat.sub_zero, Nat.sub_self, Nat.le_refl, Nat.zero_le, ↓reduceIte, not_true_eq_false, not_false_eq_true, or_true, true_or, or_false, false_or, Option.some.injEq, ne_eq, implies_true, forall_const, forall_eq', forall_eq, and_self, or_self, Bool.or_true, Bool.or_false, Bool.true_or, Bool.false_or, Bool.and_true, Bool.and_false, Bool.true_and, Bool.false_and, Option.toList_some, Option.toList_none, Nat.succ_ne_zero, false_implies, true_implies, kx_l0, kd_sI, kd_sR, kd_sA, kd_sL, fI_sI_eq, fI_sI_ne, fR_sI, aI_sI, mL_sI, ln_sI, fR_sR_eq, fR_sR_ne, fI_sR, aI_sR, mL_sR, ln_sR, fI_sA, fR_sA, mL_sA, ln_sA, fI_sL, fR_sL, aI_sL, ln_sL, lo_X9_digest_0, lo_X9_digest_3, lo_X9_digest_4, lo_X9_digest_5, lo_X9_digest_6, lo_X9_digest_7, lo_X9_digest_9, lo_X9_digest_12, lo_X9_digest_13, lo_X9_digest_14, lo_X9_digest_15, lo_X9_digest_18, lo_X9_digest_19, lo_X9_digest_22, lo_X9_digest_23, lo_X9_digest_26, lo_X9_digest_29, lo_X9_digest_30, lo_X9_digest_31, lo_X9_digest_34, lo_X9_digest_35, lo_X9_digest_36, lo_X9_digest_37, lo_X9_digest_40, lo_X9_digest_41, lo_X9_digest_42, lo_X9_digest_43, lo_X9_digest_46, lo_X9_digest_47, lo_X9_digest_48, lo_X9_digest_49, lo_X9_digest_50, lo_X9_digest_51, lo_X9_digest_54, lo_X9_digest_55, lo_X9_digest_56, lo_X9_digest_57, lo_X9_digest_60, lo_X9_digest_61, lo_X9_digest_64, lo_X9_digest_65, lo_X9_digest_68, lo_X9_digest_71, lo_X9_digest_72, lo_X9_digest_73, lo_X9_digest_74, lo_X9_digest_75, lo_X9_digest_78, lo_X9_digest_79, lo_X9_digest_80, lo_X9_digest_81, lo_X9_digest_83, lo_X9_digest_86, lo_X9_digest_87, lo_X9_digest_90, lo_X9_digest_91, lo_X9_digest_94, lo_X9_digest_97, lo_X9_digest_98, f2_X9_numberOfHall, f2_X9_mixed, f2_X9_mixedWithGrowing, f2_X9_mixedWithTrade, f2_X9_lotInRow, f2_X9_fewestLamps, k1, b0, b1, b2, b3, hf, hr]
    exact hn
  have lp1 : G 0 0 29 [(1, .long (fo (vHall M m) 16 0 58185)), (0, .ref m), (3, .int 16)] [] M := by
    refine kx_run_ok hG (kx_in [40, 6, 49, 73]) 20 _ _ _ _ _ _ ?_
    simp only [kx_run_s, kx_run_z, kx_in, kx_beq, decide_true, decide_false, cond_true, cond_false, t_push, t_il, t_ll, t_al, t_is, t_ls, t_as, t_inc, t_bin, t_dv, t_lbin, t_lcmp, t_itl, t_dup, t_pop, t_dupx, t_go, t_gk, cutL, t_if, t_ic, t_nul, t_acmp, t_gI, t_gR, t_pI, t_pZ, t_pR, t_new, t_nwa, t_ial, t_ias, t_aln, t_cst, t_sln, t_sld, t_iret, t_zret, t_lret, t_aret, t_vret, t_no, t_call, t_fun, t_sw, sw_to0, t_oin, t_mm, t_qal, t_qas, t_qln, t_nwq, t_gcl, t_acp, lk, up1, cl1, up2, cl2, kx_c2, lv_args, kx_sum, kx_isr_r, kx_isr_n, kx_isr_v, kx_ex_r, kx_ex_n, kx_ex_v, kx_ex2_r, kx_ex2_n, kx_ex2_v, va_rf_s, va_rf_n, Value.ref.injEq, reduceCtorEq, exists_eq_left', exists_eq_left, exists_eq', exists_eq, true_and, and_true, false_and, and_false, List.length_cons, List.length_nil, List.take_succ_cons, List.take_zero, List.drop_succ_cons, List.drop_zero, List.reverse_cons, List.reverse_nil, List.nil_append, List.cons_append, List.append_nil, List.getElem?_cons_zero, List.getElem?_cons_succ, List.map_cons, List.map_nil, List.sum_cons, List.sum_nil, kx_cat_i, kx_cat_r, kx_cat_n, kx_cat_l, kx_cat_v, Nat.reduceAdd, Nat.reduceSub, Nat.reduceEqDiff, Nat.reduceLeDiff, Nat.reduceMul, Nat.reduceLT, Nat.add_zero, Nat.zero_add, Nat.sub_zero, Nat.sub_self, Nat.le_refl, Nat.zero_le, ↓reduceIte, not_true_eq_false, not_false_eq_true, or_true, true_or, or_false, false_or, Option.some.injEq, ne_eq, implies_true, forall_const, forall_eq', forall_eq, and_self, or_self, Bool.or_true, Bool.or_false, Bool.true_or, Bool.false_or, Bool.and_true, Bool.and_false, Bool.true_and, Bool.false_and, Option.toList_some, Option.toList_none, Nat.succ_ne_zero, false_implies, true_implies, kx_l0, kd_sI, kd_sR, kd_sA, kd_sL, fI_sI_eq, fI_sI_ne, fR_sI, aI_sI, mL_sI, ln_sI, fR_sR_eq, fR_sR_ne, fI_sR, aI_sR, mL_sR, ln_sR, fI_sA, fR_sA, mL_sA, ln_sA, fI_sL, fR_sL, aI_sL, ln_sL, lo_X9_digest_0, lo_X9_digest_3, lo_X9_digest_4, lo_X9_digest_5, lo_X9_digest_6, lo_X9_digest_7, lo_X9_digest_9, lo_X9_digest_12, lo_X9_digest_13, lo_X9_digest_14, lo_X9_digest_15, lo_X9_digest_18, lo_X9_digest_19, lo_X9_digest_22, lo_X9_digest_23, lo_X9_digest_26, lo_X9_digest_29, lo_X9_digest_30, lo_X9_digest_31, lo_X9_digest_34, lo_X9_digest_35, lo_X9_digest_36, lo_X9_digest_37, lo_X9_digest_40, lo_X9_digest_41, lo_X9_digest_42, lo_X9_digest_43, lo_X9_digest_46, lo_X9_digest_47, lo_X9_digest_48, lo_X9_digest_49, lo_X9_digest_50, lo_X9_digest_51, lo_X9_digest_54, lo_X9_digest_55, lo_X9_digest_56, lo_X9_digest_57, lo_X9_digest_60, lo_X9_digest_61, lo_X9_digest_64, lo_X9_digest_65, lo_X9_digest_68, lo_X9_digest_71, lo_X9_digest_72, lo_X9_digest_73, lo_X9_digest_74, lo_X9_digest_75, lo_X9_digest_78, lo_X9_digest_79, lo_X9_digest_80, lo_X9_digest_81, lo_X9_digest_83, lo_X9_digest_86, lo_X9_digest_87, lo_X9_digest_90, lo_X9_digest_91, lo_X9_digest_94, lo_X9_digest_97, lo_X9_digest_98, f2_X9_numberOfHall, f2_X9_mixed, f2_X9_mixedWithGrowing, f2_X9_mixedWithTrade, f2_X9_lotInRow, f2_X9_fewestLamps, h1, eg, ec]
    refine ⟨0, 0, by decide, by decide, (c2_X9_mixedWithLots E h1 h2 h3 h4 h5).mono ?_⟩
    rintro v N ⟨rfl, hN⟩
    have k1 : kd N m = 11 := by rw [hN.1.1, h1]
    have et : pTrade N m = True := eq_true (by
      unfold pTrade pSaleAt at ht ⊢
      rw [hN.1.1, hN.1.2.1, hN.1.2.2.1]
      exact ht)
    have hv : ∀ d, vDTrade N m d = vDTrade M m d := fun d => vDTrade_off hN d
    have hn := lp2 N _ hN rfl
    refine kx_run_ok hG (kx_in [40, 6, 49, 73]) 20 _ _ _ _ _ _ ?_
    simp only [kx_run_s, kx_run_z, kx_in, kx_beq, decide_true, decide_false, cond_true, cond_false, t_push, t_il, t_ll, t_al, t_is, t_ls, t_as, t_inc, t_bin, t_dv, t_lbin, t_lcmp, t_itl, t_dup, t_pop, t_dupx, t_go, t_gk, cutL, t_if, t_ic, t_nul, t_acmp, t_gI, t_gR, t_pI, t_pZ, t_pR, t_new, t_nwa, t_ial, t_ias, t_aln, t_cst, t_sln, t_sld, t_iret, t_zret, t_lret, t_aret, t_vret, t_no, t_call, t_fun, t_sw, sw_to0, t_oin, t_mm, t_qal, t_qas, t_qln, t_nwq, t_gcl, t_acp, lk, up1, cl1, up2, cl2, kx_c2, lv_args, kx_sum, kx_isr_r, kx_isr_n, kx_isr_v, kx_ex_r, kx_ex_n, kx_ex_v, kx_ex2_r, kx_ex2_n, kx_ex2_v, va_rf_s, va_rf_n, Value.ref.injEq, reduceCtorEq, exists_eq_left', exists_eq_left, exists_eq', exists_eq, true_and, and_true, false_and, and_false, List.length_cons, List.length_nil, List.take_succ_cons, List.take_zero, List.drop_succ_cons, List.drop_zero, List.reverse_cons, List.reverse_nil, List.nil_append, List.cons_append, List.append_nil, List.getElem?_cons_zero, List.getElem?_cons_succ, List.map_cons, List.map_nil, List.sum_cons, List.sum_nil, kx_cat_i, kx_cat_r, kx_cat_n, kx_cat_l, kx_cat_v, Nat.reduceAdd, Nat.reduceSub, Nat.reduceEqDiff, Nat.reduceLeDiff, Nat.reduceMul, Nat.reduceLT, Nat.add_zero, Nat.zero_add, Nat.sub_zero, Nat.sub_self, Nat.le_refl, Nat.zero_le, ↓reduceIte, not_true_eq_false, not_false_eq_true, or_true, true_or, or_false, false_or, Option.some.injEq, ne_eq, implies_true, forall_const, forall_eq', forall_eq, and_self, or_self, Bool.or_true, Bool.or_false, Bool.true_or, Bool.false_or, Bool.and_true, Bool.and_false, Bool.true_and, Bool.false_and, Option.toList_some, Option.toList_none, Nat.succ_ne_zero, false_implies, true_implies, kx_l0, kd_sI, kd_sR, kd_sA, kd_sL, fI_sI_eq, fI_sI_ne, fR_sI, aI_sI, mL_sI, ln_sI, fR_sR_eq, fR_sR_ne, fI_sR, aI_sR, mL_sR, ln_sR, fI_sA, fR_sA, mL_sA, ln_sA, fI_sL, fR_sL, aI_sL, ln_sL, lo_X9_digest_0, lo_X9_digest_3, lo_X9_digest_4, lo_X9_digest_5, lo_X9_digest_6, lo_X9_digest_7, lo_X9_digest_9, lo_X9_digest_12, lo_X9_digest_13, lo_X9_digest_14, lo_X9_digest_15, lo_X9_digest_18, lo_X9_digest_19, lo_X9_digest_22, lo_X9_digest_23, lo_X9_digest_26, lo_X9_digest_29, lo_X9_digest_30, lo_X9_digest_31, lo_X9_digest_34, lo_X9_digest_35, lo_X9_digest_36, lo_X9_digest_37, lo_X9_digest_40, lo_X9_digest_41, lo_X9_digest_42, lo_X9_digest_43, lo_X9_digest_46, lo_X9_digest_47, lo_X9_digest_48, lo_X9_digest_49, lo_X9_digest_50, lo_X9_digest_51, lo_X9_digest_54, lo_X9_digest_55, lo_X9_digest_56, lo_X9_digest_57, lo_X9_digest_60, lo_X9_digest_61, lo_X9_digest_64, lo_X9_digest_65, lo_X9_digest_68, lo_X9_digest_71, lo_X9_digest_72, lo_X9_digest_73, lo_X9_digest_74, lo_X9_digest_75, lo_X9_digest_78, lo_X9_digest_79, lo_X9_digest_80, lo_X9_digest_81, lo_X9_digest_83, lo_X9_digest_86, lo_X9_digest_87, lo_X9_digest_90, lo_X9_digest_91, lo_X9_digest_94, lo_X9_digest_97, lo_X9_digest_98, f2_X9_numberOfHall, f2_X9_mixed, f2_X9_mixedWithGrowing, f2_X9_mixedWithTrade, f2_X9_lotInRow, f2_X9_fewestLamps, k1, et, hv]
    exact hn
  have lpi : ∀ (n j : Nat) (d1 : Int64), j + n = 16 → G 0 0 29 [(1, .long (fo (vHall M m) n j d1)), (0, .ref m), (3, .int 16)] [] M → G 0 0 6 [(1, .long d1), (0, .ref m), (3, .int (nI j))] [] M := by
    intro n
    induction n with
    | zero =>
      intro j d1 hj hG2
      have hj5 : j = 16 := by omega
      subst hj5
      have hlt : ((15 : Int32) < nI 16) = True := eq_true (by decide)
      rw [fo_0] at hG2
      refine kx_run_ok hG (kx_in [40, 6, 29, 49, 73]) 8 _ _ _ _ _ _ ?_
      simp only [kx_run_s, kx_run_z, kx_in, kx_beq, decide_true, decide_false, cond_true, cond_false, t_push, t_il, t_ll, t_al, t_is, t_ls, t_as, t_inc, t_bin, t_dv, t_lbin, t_lcmp, t_itl, t_dup, t_pop, t_dupx, t_go, t_gk, cutL, t_if, t_ic, t_nul, t_acmp, t_gI, t_gR, t_pI, t_pZ, t_pR, t_new, t_nwa, t_ial, t_ias, t_aln, t_cst, t_sln, t_sld, t_iret, t_zret, t_lret, t_aret, t_vret, t_no, t_call, t_fun, t_sw, sw_to0, t_oin, t_mm, t_qal, t_qas, t_qln, t_nwq, t_gcl, t_acp, lk, up1, cl1, up2, cl2, kx_c2, lv_args, kx_sum, kx_isr_r, kx_isr_n, kx_isr_v, kx_ex_r, kx_ex_n, kx_ex_v, kx_ex2_r, kx_ex2_n, kx_ex2_v, va_rf_s, va_rf_n, Value.ref.injEq, reduceCtorEq, exists_eq_left', exists_eq_left, exists_eq', exists_eq, true_and, and_true, false_and, and_false, List.length_cons, List.length_nil, List.take_succ_cons, List.take_zero, List.drop_succ_cons, List.drop_zero, List.reverse_cons, List.reverse_nil, List.nil_append, List.cons_append, List.append_nil, List.getElem?_cons_zero, List.getElem?_cons_succ, List.map_cons, List.map_nil, List.sum_cons, List.sum_nil, kx_cat_i, kx_cat_r, kx_cat_n, kx_cat_l, kx_cat_v, Nat.reduceAdd, Nat.reduceSub, Nat.reduceEqDiff, Nat.reduceLeDiff, Nat.reduceMul, Nat.reduceLT, Nat.add_zero, Nat.zero_add, Nat.sub_zero, Nat.sub_self, Nat.le_refl, Nat.zero_le, ↓reduceIte, not_true_eq_false, not_false_eq_true, or_true, true_or, or_false, false_or, Option.some.injEq, ne_eq, implies_true, forall_const, forall_eq', forall_eq, and_self, or_self, Bool.or_true, Bool.or_false, Bool.true_or, Bool.false_or, Bool.and_true, Bool.and_false, Bool.true_and, Bool.false_and, Option.toList_some, Option.toList_none, Nat.succ_ne_zero, false_implies, true_implies, kx_l0, kd_sI, kd_sR, kd_sA, kd_sL, fI_sI_eq, fI_sI_ne, fR_sI, aI_sI, mL_sI, ln_sI, fR_sR_eq, fR_sR_ne, fI_sR, aI_sR, mL_sR, ln_sR, fI_sA, fR_sA, mL_sA, ln_sA, fI_sL, fR_sL, aI_sL, ln_sL, lo_X9_digest_0, lo_X9_digest_3, lo_X9_digest_4, lo_X9_digest_5, lo_X9_digest_6, lo_X9_digest_7, lo_X9_digest_9, lo_X9_digest_12, lo_X9_digest_13, lo_X9_digest_14, lo_X9_digest_15, lo_X9_digest_18, lo_X9_digest_19, lo_X9_digest_22, lo_X9_digest_23, lo_X9_digest_26, lo_X9_digest_29, lo_X9_digest_30, lo_X9_digest_31, lo_X9_digest_34, lo_X9_digest_35, lo_X9_digest_36, lo_X9_digest_37, lo_X9_digest_40, lo_X9_digest_41, lo_X9_digest_42, lo_X9_digest_43, lo_X9_digest_46, lo_X9_digest_47, lo_X9_digest_48, lo_X9_digest_49, lo_X9_digest_50, lo_X9_digest_51, lo_X9_digest_54, lo_X9_digest_55, lo_X9_digest_56, lo_X9_digest_57, lo_X9_digest_60, lo_X9_digest_61, lo_X9_digest_64, lo_X9_digest_65, lo_X9_digest_68, lo_X9_digest_71, lo_X9_digest_72, lo_X9_digest_73, lo_X9_digest_74, lo_X9_digest_75, lo_X9_digest_78, lo_X9_digest_79, lo_X9_digest_80, lo_X9_digest_81, lo_X9_digest_83, lo_X9_digest_86, lo_X9_digest_87, lo_X9_digest_90, lo_X9_digest_91, lo_X9_digest_94, lo_X9_digest_97, lo_X9_digest_98, f2_X9_numberOfHall, f2_X9_mixed, f2_X9_mixedWithGrowing, f2_X9_mixedWithTrade, f2_X9_lotInRow, f2_X9_fewestLamps, hlt]
      exact hG2
    | succ n ih2 =>
      intro j d1 hj hG2
      have hlt : ((15 : Int32) < nI j) = False := eq_false (nI_nlt (a := 15) (b := j) (by omega) (by omega))
      rw [fo_s] at hG2
      have hn := ih2 (j + 1) _ (by omega) hG2
      unfold mx at hn
      rw [← nI_1] at hn
      refine kx_run_ok hG (kx_in [40, 6, 29, 49, 73]) 18 _ _ _ _ _ _ ?_
      simp only [kx_run_s, kx_run_z, kx_in, kx_beq, decide_true, decide_false, cond_true, cond_false, t_push, t_il, t_ll, t_al, t_is, t_ls, t_as, t_inc, t_bin, t_dv, t_lbin, t_lcmp, t_itl, t_dup, t_pop, t_dupx, t_go, t_gk, cutL, t_if, t_ic, t_nul, t_acmp, t_gI, t_gR, t_pI, t_pZ, t_pR, t_new, t_nwa, t_ial, t_ias, t_aln, t_cst, t_sln, t_sld, t_iret, t_zret, t_lret, t_aret, t_vret, t_no, t_call, t_fun, t_sw, sw_to0, t_oin, t_mm, t_qal, t_qas, t_qln, t_nwq, t_gcl, t_acp, lk, up1, cl1, up2, cl2, kx_c2, lv_args, kx_sum, kx_isr_r, kx_isr_n, kx_isr_v, kx_ex_r, kx_ex_n, kx_ex_v, kx_ex2_r, kx_ex2_n, kx_ex2_v, va_rf_s, va_rf_n, Value.ref.injEq, reduceCtorEq, exists_eq_left', exists_eq_left, exists_eq', exists_eq, true_and, and_true, false_and, and_false, List.length_cons, List.length_nil, List.take_succ_cons, List.take_zero, List.drop_succ_cons, List.drop_zero, List.reverse_cons, List.reverse_nil, List.nil_append, List.cons_append, List.append_nil, List.getElem?_cons_zero, List.getElem?_cons_succ, List.map_cons, List.map_nil, List.sum_cons, List.sum_nil, kx_cat_i, kx_cat_r, kx_cat_n, kx_cat_l, kx_cat_v, Nat.reduceAdd, Nat.reduceSub, Nat.reduceEqDiff, Nat.reduceLeDiff, Nat.reduceMul, Nat.reduceLT, Nat.add_zero, Nat.zero_add, Nat.sub_zero, Nat.sub_self, Nat.le_refl, Nat.zero_le, ↓reduceIte, not_true_eq_false, not_false_eq_true, or_true, true_or, or_false, false_or, Option.some.injEq, ne_eq, implies_true, forall_const, forall_eq', forall_eq, and_self, or_self, Bool.or_true, Bool.or_false, Bool.true_or, Bool.false_or, Bool.and_true, Bool.and_false, Bool.true_and, Bool.false_and, Option.toList_some, Option.toList_none, Nat.succ_ne_zero, false_implies, true_implies, kx_l0, kd_sI, kd_sR, kd_sA, kd_sL, fI_sI_eq, fI_sI_ne, fR_sI, aI_sI, mL_sI, ln_sI, fR_sR_eq, fR_sR_ne, fI_sR, aI_sR, mL_sR, ln_sR, fI_sA, fR_sA, mL_sA, ln_sA, fI_sL, fR_sL, aI_sL, ln_sL, lo_X9_digest_0, lo_X9_digest_3, lo_X9_digest_4, lo_X9_digest_5, lo_X9_digest_6, lo_X9_digest_7, lo_X9_digest_9, lo_X9_digest_12, lo_X9_digest_13, lo_X9_digest_14, lo_X9_digest_15, lo_X9_digest_18, lo_X9_digest_19, lo_X9_digest_22, lo_X9_digest_23, lo_X9_digest_26, lo_X9_digest_29, lo_X9_digest_30, lo_X9_digest_31, lo_X9_digest_34, lo_X9_digest_35, lo_X9_digest_36, lo_X9_digest_37, lo_X9_digest_40, lo_X9_digest_41, lo_X9_digest_42, lo_X9_digest_43, lo_X9_digest_46, lo_X9_digest_47, lo_X9_digest_48, lo_X9_digest_49, lo_X9_digest_50, lo_X9_digest_51, lo_X9_digest_54, lo_X9_digest_55, lo_X9_digest_56, lo_X9_digest_57, lo_X9_digest_60, lo_X9_digest_61, lo_X9_digest_64, lo_X9_digest_65, lo_X9_digest_68, lo_X9_digest_71, lo_X9_digest_72, lo_X9_digest_73, lo_X9_digest_74, lo_X9_digest_75, lo_X9_digest_78, lo_X9_digest_79, lo_X9_digest_80, lo_X9_digest_81, lo_X9_digest_83, lo_X9_digest_86, lo_X9_digest_87, lo_X9_digest_90, lo_X9_digest_91, lo_X9_digest_94, lo_X9_digest_97, lo_X9_digest_98, f2_X9_numberOfHall, f2_X9_mixed, f2_X9_mixedWithGrowing, f2_X9_mixedWithTrade, f2_X9_lotInRow, f2_X9_fewestLamps, hlt, h1, eh]
      exact hn
  exact lpi 16 0 58185 rfl lp1
