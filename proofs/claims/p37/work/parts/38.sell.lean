theorem kd_eBook0 (M : kx_M) (m t b g : Nat) (st bk pd sh : Int32) : kd (eBook0 M m t b g st bk pd sh) = kd M := by unfold eBook0; simp only [kd_sI]
theorem fR_eBook0 (M : kx_M) (m t b g : Nat) (st bk pd sh : Int32) : fR (eBook0 M m t b g st bk pd sh) = fR M := by unfold eBook0; simp only [fR_sI]
theorem mL_eBook0 (M : kx_M) (m t b g : Nat) (st bk pd sh : Int32) : mL (eBook0 M m t b g st bk pd sh) = mL M := by unfold eBook0; simp only [mL_sI]
theorem aI_eBook0 (M : kx_M) (m t b g : Nat) (st bk pd sh : Int32) : aI (eBook0 M m t b g st bk pd sh) = aI M := by unfold eBook0; simp only [aI_sI]
theorem fI_eBook0_o {M : kx_M} {m t b g : Nat} {st bk pd sh : Int32} (i x : Nat) (h : i ≠ 23 ∧ i ≠ 26 ∧ i ≠ 214 ∧ i ≠ 101 ∧ i ≠ 104 ∧ i ≠ 125 ∧ i ≠ 127 ∧ i ≠ 216 ∧ i ≠ 217) : fI (eBook0 M m t b g st bk pd sh) i x = fI M i x := by
  unfold eBook0
  obtain ⟨a1, a2, a3, a4, a5, a6, a7, a8, a9⟩ := h
  rw [fI_sI_ne _ _ _ _ _ _ a9, fI_sI_ne _ _ _ _ _ _ a8, fI_sI_ne _ _ _ _ _ _ a7, fI_sI_ne _ _ _ _ _ _ a6, fI_sI_ne _ _ _ _ _ _ a5, fI_sI_ne _ _ _ _ _ _ a4, fI_sI_ne _ _ _ _ _ _ a3, fI_sI_ne _ _ _ _ _ _ a2, fI_sI_ne _ _ _ _ _ _ a1]
theorem kd_eBook (M : kx_M) (m t b g : Nat) (oo : Option Nat) (st bk pd sh : Int32) : kd (eBook M m t b g oo st bk pd sh) = kd M := by
  cases oo with
  | none => exact kd_eBook0 _ _ _ _ _ _ _ _ _
  | some o => exact (kd_sI _ _ _ _).trans (kd_eBook0 _ _ _ _ _ _ _ _ _)
theorem fR_eBook (M : kx_M) (m t b g : Nat) (oo : Option Nat) (st bk pd sh : Int32) : fR (eBook M m t b g oo st bk pd sh) = fR M := by
  cases oo with
  | none => exact fR_eBook0 _ _ _ _ _ _ _ _ _
  | some o => exact (fR_sI _ _ _ _).trans (fR_eBook0 _ _ _ _ _ _ _ _ _)
theorem mL_eBook (M : kx_M) (m t b g : Nat) (oo : Option Nat) (st bk pd sh : Int32) : mL (eBook M m t b g oo st bk pd sh) = mL M := by
  cases oo with
  | none => exact mL_eBook0 _ _ _ _ _ _ _ _ _
  | some o => exact (mL_sI _ _ _ _).trans (mL_eBook0 _ _ _ _ _ _ _ _ _)
theorem aI_eBook (M : kx_M) (m t b g : Nat) (oo : Option Nat) (st bk pd sh : Int32) : aI (eBook M m t b g oo st bk pd sh) = aI M := by
  cases oo with
  | none => exact aI_eBook0 _ _ _ _ _ _ _ _ _
  | some o => exact (aI_sI _ _ _ _).trans (aI_eBook0 _ _ _ _ _ _ _ _ _)
theorem fI_eBook_o {M : kx_M} {m t b g : Nat} {oo : Option Nat} {st bk pd sh : Int32} (i x : Nat) (h : i ≠ 23 ∧ i ≠ 26 ∧ i ≠ 214 ∧ i ≠ 101 ∧ i ≠ 104 ∧ i ≠ 125 ∧ i ≠ 127 ∧ i ≠ 216 ∧ i ≠ 217) (h2 : i ≠ 146) : fI (eBook M m t b g oo st bk pd sh) i x = fI M i x := by
  cases oo with
  | none => exact fI_eBook0_o i x h
  | some o => exact (fI_sI_ne _ _ _ _ _ _ h2).trans (fI_eBook0_o i x h)
theorem kd_eSale (M : kx_M) (a t b : Nat) (o : Option Nat) (st pr hr bk : Int32) : kd (eSale M a t b o st pr hr bk) = kd M := by unfold eSale; simp only [kd_sI, kd_sR]
theorem mL_eSale (M : kx_M) (a t b : Nat) (o : Option Nat) (st pr hr bk : Int32) : mL (eSale M a t b o st pr hr bk) = mL M := by unfold eSale; simp only [mL_sI, mL_sR]
theorem aI_eSale (M : kx_M) (a t b : Nat) (o : Option Nat) (st pr hr bk : Int32) : aI (eSale M a t b o st pr hr bk) = aI M := by unfold eSale; simp only [aI_sI, aI_sR]
theorem fI_eSale_ne {M : kx_M} {a t b : Nat} {o : Option Nat} {st pr hr bk : Int32} (i : Nat) {x : Nat} (h : x ≠ a) : fI (eSale M a t b o st pr hr bk) i x = fI M i x := by
  unfold eSale
  rw [fI_sI_na _ _ _ _ _ _ h, fI_sI_na _ _ _ _ _ _ h, fI_sI_na _ _ _ _ _ _ h, fI_sI_na _ _ _ _ _ _ h, fI_sR, fI_sR, fI_sR]
theorem fR_eSale_ne {M : kx_M} {a t b : Nat} {o : Option Nat} {st pr hr bk : Int32} (i : Nat) {x : Nat} (h : x ≠ a) : fR (eSale M a t b o st pr hr bk) i x = fR M i x := by
  unfold eSale
  rw [fR_sI, fR_sI, fR_sI, fR_sI, fR_sR_na _ _ _ _ _ _ h, fR_sR_na _ _ _ _ _ _ h, fR_sR_na _ _ _ _ _ _ h]
theorem kx_one_mul (x : Int32) : 1 * x = x := by rw [Int32.one_mul]
theorem sL_sL (M : kx_M) (a : Nat) (l k : List Nat) : sL (sL M a l) a k = sL M a k := by
  have e : u1 (u1 (mL M) a l) a k = u1 (mL M) a k := funext fun b => by
    unfold u1
    split <;> rfl
  unfold sL
  show (kd M, ln M, fI M, fR M, aI M, u1 (u1 (mL M) a l) a k, aR M) = _
  rw [e]
set_option maxRecDepth 16000 in
theorem c2_X9_sell (E : kx_E) {M : kx_M} {m t b g tl sl : Nat} {oo : Option Nat} {st pr : Int32} (h1 : kd M m = 11) (h2 : kd M t = 7) (h3 : kd M b = 2) (h4 : fR M 121 t = some g) (h5 : kd M g = 6) (h6 : ∀ o, oo = some o → kd M o = 8) (h7 : fR M 206 m = some tl) (h8 : kd M tl = 1) (h9 : (mL M tl).length ≤ 1000) (h10 : fR M 207 m = some sl) (h11 : kd M sl = 1) (h12 : (mL M sl).length ≤ 1000) (hne : tl ≠ sl) : c2t_X9_sell E [.ref m, .ref t, .ref b, va_rf oo, .int st, .int pr] M 4 3011 (fun v M1 => v = none ∧ ∃ a q, kd M a = 0 ∧ kd M q = 0 ∧ a ≠ q ∧ M1 = eSell M m t b g oo st pr tl sl a q) := by
  have hlen : (lg_sl [Value.ref m, Value.ref t, Value.ref b, va_rf oo, Value.int st, Value.int pr]).length ≤ 8 := by cases oo <;> exact Nat.le_of_ble_eq_true rfl
  refine en_X9_sell E hlen (fun G hG => kx_run_ok hG (kx_in [43, 17, 56, 63]) 60 _ _ _ _ _ _ ?_)
  simp only [kx_run_s, kx_run_z, kx_in, kx_beq, decide_true, decide_false, cond_true, cond_false, t_push, t_il, t_ll, t_al, t_is, t_ls, t_as, t_inc, t_bin, t_dv, t_lbin, t_lcmp, t_itl, t_dup, t_pop, t_dupx, t_go, t_gk, cutL, t_if, t_ic, t_nul, t_acmp, t_gI, t_gR, t_pI, t_pZ, t_pR, t_new, t_nwa, t_ial, t_ias, t_aln, t_cst, t_sln, t_sld, t_iret, t_zret, t_lret, t_aret, t_vret, t_no, t_call, t_fun, t_sw, sw_to0, t_oin, t_mm, t_qal, t_qas, t_qln, t_nwq, t_gcl, t_acp, lk, up1, cl1, up2, cl2, kx_c2, lv_args, kx_sum, kx_isr_r, kx_isr_n, kx_isr_v, kx_ex_r, kx_ex_n, kx_ex_v, kx_ex2_r, kx_ex2_n, kx_ex2_v, va_rf_s, va_rf_n, Value.ref.injEq, reduceCtorEq, exists_eq_left', exists_eq_left, exists_eq', exists_eq, true_and, and_true, false_and, and_false, List.length_cons, List.length_nil, List.take_succ_cons, List.take_zero, List.drop_succ_cons, List.drop_zero, List.reverse_cons, List.reverse_nil, List.nil_append, List.cons_append, List.append_nil, List.getElem?_cons_zero, List.getElem?_cons_succ, List.map_cons, List.map_nil, List.sum_cons, List.sum_nil, kx_cat_i, kx_cat_r, kx_cat_n, kx_cat_l, kx_cat_v, Nat.reduceAdd, Nat.reduceSub, Nat.reduceEqDiff, Nat.reduceLeDiff, Nat.reduceMul, Nat.reduceLT, Nat.add_zero, Nat.zero_add, Nat.sub_zero, Nat.sub_self, Nat.le_refl, Nat.zero_le, ↓reduceIte, not_true_eq_false, not_false_eq_true, or_true, true_or, or_false, false_or, Option.some.injEq, ne_eq, implies_true, forall_const, forall_eq', forall_eq, and_self, or_self, Bool.or_true, Bool.or_false, Bool.true_or, Bool.false_or, Bool.and_true, Bool.and_false, Bool.true_and, Bool.false_and, Option.toList_some, Option.toList_none, Nat.succ_ne_zero, false_implies, true_implies, kx_l0, kd_sI, kd_sR, kd_sA, kd_sL, fI_sI_eq, fI_sI_ne, fR_sI, aI_sI, mL_sI, ln_sI, fR_sR_eq, fR_sR_ne, fI_sR, aI_sR, mL_sR, ln_sR, fI_sA, fR_sA, mL_sA, ln_sA, fI_sL, fR_sL, aI_sL, ln_sL, lo_X9_sell_0, lo_X9_sell_2, lo_X9_sell_5, lo_X9_sell_6, lo_X9_sell_9, lo_X9_sell_12, lo_X9_sell_14, lo_X9_sell_17, lo_X9_sell_18, lo_X9_sell_19, lo_X9_sell_20, lo_X9_sell_21, lo_X9_sell_23, lo_X9_sell_25, lo_X9_sell_26, lo_X9_sell_29, lo_X9_sell_31, lo_X9_sell_34, lo_X9_sell_36, lo_X9_sell_37, lo_X9_sell_39, lo_X9_sell_40, lo_X9_sell_43, lo_X9_sell_44, lo_X9_sell_47, lo_X9_sell_48, lo_X9_sell_51, lo_X9_sell_52, lo_X9_sell_53, lo_X9_sell_56, lo_X9_sell_57, lo_X9_sell_60, lo_X9_sell_63, lo_X9_sell_64, lo_X9_sell_65, lo_X9_sell_66, lo_X9_sell_69, lo_X9_sell_71, lo_X9_sell_72, lo_X9_sell_75, lo_X9_sell_78, lo_X9_sell_81, lo_X9_sell_82, lo_X9_sell_83, lo_X9_sell_86, lo_X9_sell_89, lo_X9_sell_91, lo_X9_sell_94, lo_X9_sell_95, lo_X9_sell_98, lo_X9_sell_99, lo_X9_sell_102, lo_X9_sell_103, lo_X9_sell_104, lo_X9_sell_107, lo_X9_sell_109, lo_X9_sell_112, lo_X9_sell_113, f2_X9_bucketsFor, f2_X7_init, f2_X8_init, f2_Jx4a65c_add_9ea2d, f2_Jx4a65c_size_8abf5, f2_Jx4a65c_remove_915e3, h1, h2]
  intro a ha
  have hma : m ≠ a := kx_ne h1 ha (by decide)
  have hta : t ≠ a := kx_ne h2 ha (by decide)
  have hba : b ≠ a := kx_ne h3 ha (by decide)
  have hga : g ≠ a := kx_ne h5 ha (by decide)
  have hla : tl ≠ a := kx_ne h8 ha (by decide)
  have hsa : sl ≠ a := kx_ne h11 ha (by decide)
  have hoa : ∀ o, oo = some o → o ≠ a := fun o ho => kx_ne (h6 o ho) ha (by decide)
  have k1 : kd (sN M a 9 0) m = 11 := by rw [kd_sN_ne hma, h1]
  have k2 : kd (sN M a 9 0) a = 9 := kd_sN
  have k3 : fI (sN M a 9 0) 210 m = fI M 210 m := fI_sN_ne _ hma
  have kL : ∀ x, x ≠ a → mL (sN M a 9 0) x = mL M x := fun x hx => mL_sN_ne hx
  have kk : ∀ x, x ≠ a → kd (sN M a 9 0) x = kd M x := fun x hx => kd_sN_ne hx
  have kI : ∀ i x, x ≠ a → fI (sN M a 9 0) i x = fI M i x := fun i x hx => fI_sN_ne i hx
  have kR : ∀ i x, x ≠ a → fR (sN M a 9 0) i x = fR M i x := fun i x hx => fR_sN_ne i hx
  have hbk : (if fI M 127 t < vBuckets st then fI M 127 t else vBuckets st) = vMin (vBuckets st) (fI M 127 t) := rfl
  rw [hbk]
  generalize hN : sN M a 9 0 = N at k1 k2 k3 kL kk kI kR ⊢
  refine kx_run_ok hG (kx_in [43, 17, 63]) 60 _ _ _ _ _ _ ?_
  simp only [kx_run_s, kx_run_z, kx_in, kx_beq, decide_true, decide_false, cond_true, cond_false, t_push, t_il, t_ll, t_al, t_is, t_ls, t_as, t_inc, t_bin, t_dv, t_lbin, t_lcmp, t_itl, t_dup, t_pop, t_dupx, t_go, t_gk, cutL, t_if, t_ic, t_nul, t_acmp, t_gI, t_gR, t_pI, t_pZ, t_pR, t_new, t_nwa, t_ial, t_ias, t_aln, t_cst, t_sln, t_sld, t_iret, t_zret, t_lret, t_aret, t_vret, t_no, t_call, t_fun, t_sw, sw_to0, t_oin, t_mm, t_qal, t_qas, t_qln, t_nwq, t_gcl, t_acp, lk, up1, cl1, up2, cl2, kx_c2, lv_args, kx_sum, kx_isr_r, kx_isr_n, kx_isr_v, kx_ex_r, kx_ex_n, kx_ex_v, kx_ex2_r, kx_ex2_n, kx_ex2_v, va_rf_s, va_rf_n, Value.ref.injEq, reduceCtorEq, exists_eq_left', exists_eq_left, exists_eq', exists_eq, true_and, and_true, false_and, and_false, List.length_cons, List.length_nil, List.take_succ_cons, List.take_zero, List.drop_succ_cons, List.drop_zero, List.reverse_cons, List.reverse_nil, List.nil_append, List.cons_append, List.append_nil, List.getElem?_cons_zero, List.getElem?_cons_succ, List.map_cons, List.map_nil, List.sum_cons, List.sum_nil, kx_cat_i, kx_cat_r, kx_cat_n, kx_cat_l, kx_cat_v, Nat.reduceAdd, Nat.reduceSub, Nat.reduceEqDiff, Nat.reduceLeDiff, Nat.reduceMul, Nat.reduceLT, Nat.add_zero, Nat.zero_add, Nat.sub_zero, Nat.sub_self, Nat.le_refl, Nat.zero_le, ↓reduceIte, not_true_eq_false, not_false_eq_true, or_true, true_or, or_false, false_or, Option.some.injEq, ne_eq, implies_true, forall_const, forall_eq', forall_eq, and_self, or_self, Bool.or_true, Bool.or_false, Bool.true_or, Bool.false_or, Bool.and_true, Bool.and_false, Bool.true_and, Bool.false_and, Option.toList_some, Option.toList_none, Nat.succ_ne_zero, false_implies, true_implies, kx_l0, kd_sI, kd_sR, kd_sA, kd_sL, fI_sI_eq, fI_sI_ne, fR_sI, aI_sI, mL_sI, ln_sI, fR_sR_eq, fR_sR_ne, fI_sR, aI_sR, mL_sR, ln_sR, fI_sA, fR_sA, mL_sA, ln_sA, fI_sL, fR_sL, aI_sL, ln_sL, lo_X9_sell_0, lo_X9_sell_2, lo_X9_sell_5, lo_X9_sell_6, lo_X9_sell_9, lo_X9_sell_12, lo_X9_sell_14, lo_X9_sell_17, lo_X9_sell_18, lo_X9_sell_19, lo_X9_sell_20, lo_X9_sell_21, lo_X9_sell_23, lo_X9_sell_25, lo_X9_sell_26, lo_X9_sell_29, lo_X9_sell_31, lo_X9_sell_34, lo_X9_sell_36, lo_X9_sell_37, lo_X9_sell_39, lo_X9_sell_40, lo_X9_sell_43, lo_X9_sell_44, lo_X9_sell_47, lo_X9_sell_48, lo_X9_sell_51, lo_X9_sell_52, lo_X9_sell_53, lo_X9_sell_56, lo_X9_sell_57, lo_X9_sell_60, lo_X9_sell_63, lo_X9_sell_64, lo_X9_sell_65, lo_X9_sell_66, lo_X9_sell_69, lo_X9_sell_71, lo_X9_sell_72, lo_X9_sell_75, lo_X9_sell_78, lo_X9_sell_81, lo_X9_sell_82, lo_X9_sell_83, lo_X9_sell_86, lo_X9_sell_89, lo_X9_sell_91, lo_X9_sell_94, lo_X9_sell_95, lo_X9_sell_98, lo_X9_sell_99, lo_X9_sell_102, lo_X9_sell_103, lo_X9_sell_104, lo_X9_sell_107, lo_X9_sell_109, lo_X9_sell_112, lo_X9_sell_113, f2_X9_bucketsFor, f2_X7_init, f2_X8_init, f2_Jx4a65c_add_9ea2d, f2_Jx4a65c_size_8abf5, f2_Jx4a65c_remove_915e3, k1, k2, k3, kx_rv_v]
  generalize hS : eSale N a t b oo st pr (fI M 210 m) (vMin (vBuckets st) (fI M 127 t)) = P
  have p1 : kd P m = 11 := by rw [← hS, kd_eSale, k1]
  have p2 : kd P a = 9 := by rw [← hS, kd_eSale, k2]
  have pk : ∀ x, x ≠ a → kd P x = kd M x := fun x hx => by rw [← hS, kd_eSale, kk x hx]
  have pI : ∀ i x, x ≠ a → fI P i x = fI M i x := fun i x hx => by rw [← hS, fI_eSale_ne i hx, kI i x hx]
  have pR : ∀ i x, x ≠ a → fR P i x = fR M i x := fun i x hx => by rw [← hS, fR_eSale_ne i hx, kR i x hx]
  have pL : ∀ x, x ≠ a → mL P x = mL M x := fun x hx => by rw [← hS, mL_eSale, kL x hx]
  have r1 : fR P 160 a = some t := by rw [← hS]; unfold eSale; simp only [fR_sI, fR_sR_eq, fR_sR_ne, ne_eq, Nat.reduceEqDiff, not_false_eq_true]
  have r2 : fR P 161 a = some b := by rw [← hS]; unfold eSale; simp only [fR_sI, fR_sR_eq, fR_sR_ne, ne_eq, Nat.reduceEqDiff, not_false_eq_true]
  have r3 : fR P 162 a = oo := by rw [← hS]; unfold eSale; simp only [fR_sI, fR_sR_eq, fR_sR_ne, ne_eq, Nat.reduceEqDiff, not_false_eq_true]
  have i1 : fI P 163 a = st := by rw [← hS]; unfold eSale; simp only [fI_sI_eq, fI_sI_ne, ne_eq, Nat.reduceEqDiff, not_false_eq_true]
  have i2 : fI P 164 a = pr := by rw [← hS]; unfold eSale; simp only [fI_sI_eq, fI_sI_ne, ne_eq, Nat.reduceEqDiff, not_false_eq_true]
  have i3 : fI P 166 a = vMin (vBuckets st) (fI M 127 t) := by rw [← hS]; unfold eSale; simp only [fI_sI_eq, fI_sI_ne, ne_eq, Nat.reduceEqDiff, not_false_eq_true]
  refine ⟨p1, 0, 0, by decide, by decide, (c2_X9_book E (sg := 1) p1 p2 r1 ((pk t hta).trans h2) r2 ((pk b hba).trans h3) ((pR 121 t hta).trans h4) ((pk g hga).trans h5) r3 (fun o ho => (pk o (hoa o ho)).trans (h6 o ho))).mono ?_⟩
  rintro v M1 ⟨rfl, hM1⟩
  have b1 : kd M1 = kd P := by rw [hM1, kd_eBook]
  have b2 : fR M1 = fR P := by rw [hM1, fR_eBook]
  have b3 : mL M1 = mL P := by rw [hM1, mL_eBook]
  have hM1' : M1 = eSell1 M m t b g oo st pr a := by
    rw [hM1, i1, i2, i3]
    unfold eSell1
    rw [hN, hS, kx_one_mul, kx_one_mul, kx_one_mul, kx_one_mul]
  have q1 : kd M1 m = 11 := by rw [b1, p1]
  have q2 : kd M1 t = 7 := by rw [b1, pk t hta, h2]
  have q3 : fR M1 206 m = some tl := by rw [b2, pR 206 m hma, h7]
  have q4 : fR M1 207 m = some sl := by rw [b2, pR 207 m hma, h10]
  have q5 : kd M1 tl = 1 := by rw [b1, pk tl hla, h8]
  have q6 : kd M1 sl = 1 := by rw [b1, pk sl hsa, h11]
  have q7 : mL M1 tl = mL M tl := by rw [b3, pL tl hla]
  have q8 : mL M1 sl = mL M sl := by rw [b3, pL sl hsa]
  have q9 : kd M1 b = 2 := by rw [b1, pk b hba, h3]
  have q10 : kd M1 a = 9 := by rw [b1, p2]
  have q11 : ∀ q, kd M1 q = 0 → kd M q = 0 ∧ a ≠ q := fun q hq => by
    have hqa : q ≠ a := fun z => by rw [z, q10] at hq; exact absurd hq (by decide)
    rw [b1, pk q hqa] at hq
    exact ⟨hq, Ne.symm hqa⟩
  clear hM1 b1 b2 b3 p1 p2 pk pI pR pL r1 r2 r3 i1 i2 i3 hS k1 k2 k3 kL kk kI kR
  have s1 : kd (eSold M1 t) = kd M1 := by unfold eSold; split <;> simp only [kd_sI]
  have s2 : fR (eSold M1 t) = fR M1 := by unfold eSold; split <;> simp only [fR_sI]
  have s3 : mL (eSold M1 t) = mL M1 := by unfold eSold; split <;> simp only [mL_sI]
  have key : ∀ M2 : kx_M, M2 = eSold M1 t → G 3 3004 56 [(0, .ref m), (1, .ref t), (2, .ref b), (3, va_rf oo), (4, .int st), (5, .int pr), (6, .int (vMin (vBuckets st) (fI M 127 t))), (7, .ref a)] [] M2 := by
    intro M2 hM2
    rw [← hM2] at s1 s2 s3
    have t1 : kd M2 m = 11 := by rw [s1, q1]
    have t2 : kd M2 t = 7 := by rw [s1, q2]
    have t3 : fR M2 206 m = some tl := by rw [s2, q3]
    refine kx_run_ok hG (kx_in [43, 17, 56, 63]) 60 _ _ _ _ _ _ ?_
    simp only [kx_run_s, kx_run_z, kx_in, kx_beq, decide_true, decide_false, cond_true, cond_false, t_push, t_il, t_ll, t_al, t_is, t_ls, t_as, t_inc, t_bin, t_dv, t_lbin, t_lcmp, t_itl, t_dup, t_pop, t_dupx, t_go, t_gk, cutL, t_if, t_ic, t_nul, t_acmp, t_gI, t_gR, t_pI, t_pZ, t_pR, t_new, t_nwa, t_ial, t_ias, t_aln, t_cst, t_sln, t_sld, t_iret, t_zret, t_lret, t_aret, t_vret, t_no, t_call, t_fun, t_sw, sw_to0, t_oin, t_mm, t_qal, t_qas, t_qln, t_nwq, t_gcl, t_acp, lk, up1, cl1, up2, cl2, kx_c2, lv_args, kx_sum, kx_isr_r, kx_isr_n, kx_isr_v, kx_ex_r, kx_ex_n, kx_ex_v, kx_ex2_r, kx_ex2_n, kx_ex2_v, va_rf_s, va_rf_n, Value.ref.injEq, reduceCtorEq, exists_eq_left', exists_eq_left, exists_eq', exists_eq, true_and, and_true, false_and, and_false, List.length_cons, List.length_nil, List.take_succ_cons, List.take_zero, List.drop_succ_cons, List.drop_zero, List.reverse_cons, List.reverse_nil, List.nil_append, List.cons_append, List.append_nil, List.getElem?_cons_zero, List.getElem?_cons_succ, List.map_cons, List.map_nil, List.sum_cons, List.sum_nil, kx_cat_i, kx_cat_r, kx_cat_n, kx_cat_l, kx_cat_v, Nat.reduceAdd, Nat.reduceSub, Nat.reduceEqDiff, Nat.reduceLeDiff, Nat.reduceMul, Nat.reduceLT, Nat.add_zero, Nat.zero_add, Nat.sub_zero, Nat.sub_self, Nat.le_refl, Nat.zero_le, ↓reduceIte, not_true_eq_false, not_false_eq_true, or_true, true_or, or_false, false_or, Option.some.injEq, ne_eq, implies_true, forall_const, forall_eq', forall_eq, and_self, or_self, Bool.or_true, Bool.or_false, Bool.true_or, Bool.false_or, Bool.and_true, Bool.and_false, Bool.true_and, Bool.false_and, Option.toList_some, Option.toList_none, Nat.succ_ne_zero, false_implies, true_implies, kx_l0, kd_sI, kd_sR, kd_sA, kd_sL, fI_sI_eq, fI_sI_ne, fR_sI, aI_sI, mL_sI, ln_sI, fR_sR_eq, fR_sR_ne, fI_sR, aI_sR, mL_sR, ln_sR, fI_sA, fR_sA, mL_sA, ln_sA, fI_sL, fR_sL, aI_sL, ln_sL, lo_X9_sell_0, lo_X9_sell_2, lo_X9_sell_5, lo_X9_sell_6, lo_X9_sell_9, lo_X9_sell_12, lo_X9_sell_14, lo_X9_sell_17, lo_X9_sell_18, lo_X9_sell_19, lo_X9_sell_20, lo_X9_sell_21, lo_X9_sell_23, lo_X9_sell_25, lo_X9_sell_26, lo_X9_sell_29, lo_X9_sell_31, lo_X9_sell_34, lo_X9_sell_36, lo_X9_sell_37, lo_X9_sell_39, lo_X9_sell_40, lo_X9_sell_43, lo_X9_sell_44, lo_X9_sell_47, lo_X9_sell_48, lo_X9_sell_51, lo_X9_sell_52, lo_X9_sell_53, lo_X9_sell_56, lo_X9_sell_57, lo_X9_sell_60, lo_X9_sell_63, lo_X9_sell_64, lo_X9_sell_65, lo_X9_sell_66, lo_X9_sell_69, lo_X9_sell_71, lo_X9_sell_72, lo_X9_sell_75, lo_X9_sell_78, lo_X9_sell_81, lo_X9_sell_82, lo_X9_sell_83, lo_X9_sell_86, lo_X9_sell_89, lo_X9_sell_91, lo_X9_sell_94, lo_X9_sell_95, lo_X9_sell_98, lo_X9_sell_99, lo_X9_sell_102, lo_X9_sell_103, lo_X9_sell_104, lo_X9_sell_107, lo_X9_sell_109, lo_X9_sell_112, lo_X9_sell_113, f2_X9_bucketsFor, f2_X7_init, f2_X8_init, f2_Jx4a65c_add_9ea2d, f2_Jx4a65c_size_8abf5, f2_Jx4a65c_remove_915e3, t1, t2, t3]
    intro q hq
    rw [s1] at hq
    obtain ⟨hq0, haq⟩ := q11 q hq
    have hmq : m ≠ q := kx_ne h1 hq0 (by decide)
    have htq : t ≠ q := kx_ne h2 hq0 (by decide)
    have hbq : b ≠ q := kx_ne h3 hq0 (by decide)
    have hlq : tl ≠ q := kx_ne h8 hq0 (by decide)
    have hsq : sl ≠ q := kx_ne h11 hq0 (by decide)
    have u1 : kd (sN M2 q 10 0) m = 11 := by rw [kd_sN_ne hmq, t1]
    have u2' : kd (sN M2 q 10 0) t = 7 := by rw [kd_sN_ne htq, t2]
    have u3 : kd (sN M2 q 10 0) b = 2 := by rw [kd_sN_ne hbq, s1, q9]
    have u4 : kd (sN M2 q 10 0) q = 10 := kd_sN
    have u5 : kd (sN M2 q 10 0) tl = 1 := by rw [kd_sN_ne hlq, s1, q5]
    have u6 : kd (sN M2 q 10 0) sl = 1 := by rw [kd_sN_ne hsq, s1, q6]
    have u7 : kd (sN M2 q 10 0) a = 9 := by rw [kd_sN_ne haq, s1, q10]
    have u8 : fR (sN M2 q 10 0) 207 m = some sl := by rw [fR_sN_ne _ hmq, s2, q4]
    have u9 : mL (sN M2 q 10 0) tl = mL M tl := by rw [mL_sN_ne hlq, s3, q7]
    have u10 : mL (sN M2 q 10 0) sl = mL M sl := by rw [mL_sN_ne hsq, s3, q8]
    have u11 : fI (sN M2 q 10 0) 123 t = fI M2 123 t := fI_sN_ne _ htq
    have u12 : fI (sN M2 q 10 0) 126 t = fI M2 126 t := fI_sN_ne _ htq
    have hl1 := eq_true h9
    have hE : eSell M m t b g oo st pr tl sl a q = eKeep (sL (eTro (sN M2 q 10 0) q b (fI M2 123 t) st (fI M2 126 t)) tl (mL M tl ++ [q])) sl a := by
      unfold eSell eSell2
      rw [← hM1', ← hM2]
      have : mL M2 tl = mL M tl := by rw [s3, q7]
      rw [this]
    have hne' : sl ≠ tl := Ne.symm hne
    have e20 : (Int32.ofNat (mL M sl).length < 20) = ((mL M sl).length < 20) := by
      have := i32_lt (m := (mL M sl).length) (n := 20) (by omega) (by decide)
      exact this
    generalize sN M2 q 10 0 = U at u1 u2' u3 u4 u5 u6 u7 u8 u9 u10 u11 u12 hE ⊢
    have v1 : ∀ (X : kx_M) (l : List Nat), mL (sL X tl l) sl = mL X sl := fun X l => mL_sL_ne _ _ _ _ hne'
    unfold eTro at hE
    have hl2 := eq_true h12
    have hl3 : ((mL M sl).eraseIdx 0).length ≤ 1000 := Nat.le_trans (List.length_eraseIdx_le _ _) h12
    have hl3' := eq_true hl3
    refine kx_run_ok hG (kx_in [43, 17, 56, 63]) 60 _ _ _ _ _ _ ?_
    simp only [kx_run_s, kx_run_z, kx_in, kx_beq, decide_true, decide_false, cond_true, cond_false, t_push, t_il, t_ll, t_al, t_is, t_ls, t_as, t_inc, t_bin, t_dv, t_lbin, t_lcmp, t_itl, t_dup, t_pop, t_dupx, t_go, t_gk, cutL, t_if, t_ic, t_nul, t_acmp, t_gI, t_gR, t_pI, t_pZ, t_pR, t_new, t_nwa, t_ial, t_ias, t_aln, t_cst, t_sln, t_sld, t_iret, t_zret, t_lret, t_aret, t_vret, t_no, t_call, t_fun, t_sw, sw_to0, t_oin, t_mm, t_qal, t_qas, t_qln, t_nwq, t_gcl, t_acp, lk, up1, cl1, up2, cl2, kx_c2, lv_args, kx_sum, kx_isr_r, kx_isr_n, kx_isr_v, kx_ex_r, kx_ex_n, kx_ex_v, kx_ex2_r, kx_ex2_n, kx_ex2_v, va_rf_s, va_rf_n, Value.ref.injEq, reduceCtorEq, exists_eq_left', exists_eq_left, exists_eq', exists_eq, true_and, and_true, false_and, and_false, List.length_cons, List.length_nil, List.take_succ_cons, List.take_zero, List.drop_succ_cons, List.drop_zero, List.reverse_cons, List.reverse_nil, List.nil_append, List.cons_append, List.append_nil, List.getElem?_cons_zero, List.getElem?_cons_succ, List.map_cons, List.map_nil, List.sum_cons, List.sum_nil, kx_cat_i, kx_cat_r, kx_cat_n, kx_cat_l, kx_cat_v, Nat.reduceAdd, Nat.reduceSub, Nat.reduceEqDiff, Nat.reduceLeDiff, Nat.reduceMul, Nat.reduceLT, Nat.add_zero, Nat.zero_add, Nat.sub_zero, Nat.sub_self, Nat.le_refl, Nat.zero_le, ↓reduceIte, not_true_eq_false, not_false_eq_true, or_true, true_or, or_false, false_or, Option.some.injEq, ne_eq, implies_true, forall_const, forall_eq', forall_eq, and_self, or_self, Bool.or_true, Bool.or_false, Bool.true_or, Bool.false_or, Bool.and_true, Bool.and_false, Bool.true_and, Bool.false_and, Option.toList_some, Option.toList_none, Nat.succ_ne_zero, false_implies, true_implies, kx_l0, kd_sI, kd_sR, kd_sA, kd_sL, fI_sI_eq, fI_sI_ne, fR_sI, aI_sI, mL_sI, ln_sI, fR_sR_eq, fR_sR_ne, fI_sR, aI_sR, mL_sR, ln_sR, fI_sA, fR_sA, mL_sA, ln_sA, fI_sL, fR_sL, aI_sL, ln_sL, lo_X9_sell_0, lo_X9_sell_2, lo_X9_sell_5, lo_X9_sell_6, lo_X9_sell_9, lo_X9_sell_12, lo_X9_sell_14, lo_X9_sell_17, lo_X9_sell_18, lo_X9_sell_19, lo_X9_sell_20, lo_X9_sell_21, lo_X9_sell_23, lo_X9_sell_25, lo_X9_sell_26, lo_X9_sell_29, lo_X9_sell_31, lo_X9_sell_34, lo_X9_sell_36, lo_X9_sell_37, lo_X9_sell_39, lo_X9_sell_40, lo_X9_sell_43, lo_X9_sell_44, lo_X9_sell_47, lo_X9_sell_48, lo_X9_sell_51, lo_X9_sell_52, lo_X9_sell_53, lo_X9_sell_56, lo_X9_sell_57, lo_X9_sell_60, lo_X9_sell_63, lo_X9_sell_64, lo_X9_sell_65, lo_X9_sell_66, lo_X9_sell_69, lo_X9_sell_71, lo_X9_sell_72, lo_X9_sell_75, lo_X9_sell_78, lo_X9_sell_81, lo_X9_sell_82, lo_X9_sell_83, lo_X9_sell_86, lo_X9_sell_89, lo_X9_sell_91, lo_X9_sell_94, lo_X9_sell_95, lo_X9_sell_98, lo_X9_sell_99, lo_X9_sell_102, lo_X9_sell_103, lo_X9_sell_104, lo_X9_sell_107, lo_X9_sell_109, lo_X9_sell_112, lo_X9_sell_113, f2_X9_bucketsFor, f2_X7_init, f2_X8_init, f2_Jx4a65c_add_9ea2d, f2_Jx4a65c_size_8abf5, f2_Jx4a65c_remove_915e3, u1, u2', u3, u4, u5, u6, u7, u8, u9, u10, u11, u12, hl1, hl2, hl3', e20, eTro, v1, mL_sL_eq]
    have hc0 : Int32.toNatClampNeg 0 = 0 := kx_c0
    refine ⟨fun z => ⟨a, q, ha, hq0, haq, ?_⟩, fun z => ⟨⟨Int32.le_refl 0, nI_lt (a := 0) (b := (mL M sl).length) (by omega) (by omega)⟩, by rw [hc0]; exact hl3, a, q, ha, hq0, haq, ?_⟩⟩
    · rw [hE]
      unfold eKeep
      rw [v1, mL_sI, mL_sI, mL_sI, mL_sR, u10, if_pos z]
    · rw [hE, hc0]
      unfold eKeep
      rw [v1, mL_sI, mL_sI, mL_sI, mL_sR, u10, if_neg z, sL_sL]
  refine kx_run_ok hG (kx_in [43, 17, 56, 63]) 60 _ _ _ _ _ _ ?_
  simp only [kx_run_s, kx_run_z, kx_in, kx_beq, decide_true, decide_false, cond_true, cond_false, t_push, t_il, t_ll, t_al, t_is, t_ls, t_as, t_inc, t_bin, t_dv, t_lbin, t_lcmp, t_itl, t_dup, t_pop, t_dupx, t_go, t_gk, cutL, t_if, t_ic, t_nul, t_acmp, t_gI, t_gR, t_pI, t_pZ, t_pR, t_new, t_nwa, t_ial, t_ias, t_aln, t_cst, t_sln, t_sld, t_iret, t_zret, t_lret, t_aret, t_vret, t_no, t_call, t_fun, t_sw, sw_to0, t_oin, t_mm, t_qal, t_qas, t_qln, t_nwq, t_gcl, t_acp, lk, up1, cl1, up2, cl2, kx_c2, lv_args, kx_sum, kx_isr_r, kx_isr_n, kx_isr_v, kx_ex_r, kx_ex_n, kx_ex_v, kx_ex2_r, kx_ex2_n, kx_ex2_v, va_rf_s, va_rf_n, Value.ref.injEq, reduceCtorEq, exists_eq_left', exists_eq_left, exists_eq', exists_eq, true_and, and_true, false_and, and_false, List.length_cons, List.length_nil, List.take_succ_cons, List.take_zero, List.drop_succ_cons, List.drop_zero, List.reverse_cons, List.reverse_nil, List.nil_append, List.cons_append, List.append_nil, List.getElem?_cons_zero, List.getElem?_cons_succ, List.map_cons, List.map_nil, List.sum_cons, List.sum_nil, kx_cat_i, kx_cat_r, kx_cat_n, kx_cat_l, kx_cat_v, Nat.reduceAdd, Nat.reduceSub, Nat.reduceEqDiff, Nat.reduceLeDiff, Nat.reduceMul, Nat.reduceLT, Nat.add_zero, Nat.zero_add, Nat.sub_zero, Nat.sub_self, Nat.le_refl, Nat.zero_le, ↓reduceIte, not_true_eq_false, not_false_eq_true, or_true, true_or, or_false, false_or, Option.some.injEq, ne_eq, implies_true, forall_const, forall_eq', forall_eq, and_self, or_self, Bool.or_true, Bool.or_false, Bool.true_or, Bool.false_or, Bool.and_true, Bool.and_false, Bool.true_and, Bool.false_and, Option.toList_some, Option.toList_none, Nat.succ_ne_zero, false_implies, true_implies, kx_l0, kd_sI, kd_sR, kd_sA, kd_sL, fI_sI_eq, fI_sI_ne, fR_sI, aI_sI, mL_sI, ln_sI, fR_sR_eq, fR_sR_ne, fI_sR, aI_sR, mL_sR, ln_sR, fI_sA, fR_sA, mL_sA, ln_sA, fI_sL, fR_sL, aI_sL, ln_sL, lo_X9_sell_0, lo_X9_sell_2, lo_X9_sell_5, lo_X9_sell_6, lo_X9_sell_9, lo_X9_sell_12, lo_X9_sell_14, lo_X9_sell_17, lo_X9_sell_18, lo_X9_sell_19, lo_X9_sell_20, lo_X9_sell_21, lo_X9_sell_23, lo_X9_sell_25, lo_X9_sell_26, lo_X9_sell_29, lo_X9_sell_31, lo_X9_sell_34, lo_X9_sell_36, lo_X9_sell_37, lo_X9_sell_39, lo_X9_sell_40, lo_X9_sell_43, lo_X9_sell_44, lo_X9_sell_47, lo_X9_sell_48, lo_X9_sell_51, lo_X9_sell_52, lo_X9_sell_53, lo_X9_sell_56, lo_X9_sell_57, lo_X9_sell_60, lo_X9_sell_63, lo_X9_sell_64, lo_X9_sell_65, lo_X9_sell_66, lo_X9_sell_69, lo_X9_sell_71, lo_X9_sell_72, lo_X9_sell_75, lo_X9_sell_78, lo_X9_sell_81, lo_X9_sell_82, lo_X9_sell_83, lo_X9_sell_86, lo_X9_sell_89, lo_X9_sell_91, lo_X9_sell_94, lo_X9_sell_95, lo_X9_sell_98, lo_X9_sell_99, lo_X9_sell_102, lo_X9_sell_103, lo_X9_sell_104, lo_X9_sell_107, lo_X9_sell_109, lo_X9_sell_112, lo_X9_sell_113, f2_X9_bucketsFor, f2_X7_init, f2_X8_init, f2_Jx4a65c_add_9ea2d, f2_Jx4a65c_size_8abf5, f2_Jx4a65c_remove_915e3, q2]
  refine ⟨fun z => ?_, fun z => ?_⟩
  · have hs : M1 = eSold M1 t := by unfold eSold; rw [if_neg (Int32.not_lt.mpr z)]
    exact key M1 hs
  · have hs : sI M1 129 t 2 = eSold M1 t := by unfold eSold; rw [if_pos (Int32.not_le.mp z)]
    exact key _ hs
set_option maxRecDepth 16000 in
theorem c2_X9_takeBack (E : kx_E) {M : kx_M} {m s t b g tl : Nat} {oo : Option Nat} (h1 : kd M m = 11) (h2 : kd M s = 9) (h3 : fR M 160 s = some t) (h4 : kd M t = 7) (h5 : fR M 161 s = some b) (h6 : kd M b = 2) (h7 : fR M 121 t = some g) (h8 : kd M g = 6) (h9 : fR M 162 s = oo) (h10 : ∀ o, oo = some o → kd M o = 8) (h11 : fR M 206 m = some tl) (h12 : kd M tl = 1) (h13 : (mL M tl).length ≤ 1000) : c2t_X9_takeBack E [.ref m, .ref s] M 0 0 (fun v M1 => v = none ∧ M1 = eTakeBack M m t b g oo (-1 * fI M 163 s) (-1 * fI M 166 s) (-1 * fI M 164 s * fI M 163 s) (-1 * vShare (fI M 164 s * fI M 163 s)) tl) := by
  refine en_X9_takeBack E (Nat.le_of_ble_eq_true rfl) (fun G hG => kx_run_ok hG (kx_in [6, 25]) 60 _ _ _ _ _ _ ?_)
  simp only [kx_run_s, kx_run_z, kx_in, kx_beq, decide_true, decide_false, cond_true, cond_false, t_push, t_il, t_ll, t_al, t_is, t_ls, t_as, t_inc, t_bin, t_dv, t_lbin, t_lcmp, t_itl, t_dup, t_pop, t_dupx, t_go, t_gk, cutL, t_if, t_ic, t_nul, t_acmp, t_gI, t_gR, t_pI, t_pZ, t_pR, t_new, t_nwa, t_ial, t_ias, t_aln, t_cst, t_sln, t_sld, t_iret, t_zret, t_lret, t_aret, t_vret, t_no, t_call, t_fun, t_sw, sw_to0, t_oin, t_mm, t_qal, t_qas, t_qln, t_nwq, t_gcl, t_acp, lk, up1, cl1, up2, cl2, kx_c2, lv_args, kx_sum, kx_isr_r, kx_isr_n, kx_isr_v, kx_ex_r, kx_ex_n, kx_ex_v, kx_ex2_r, kx_ex2_n, kx_ex2_v, va_rf_s, va_rf_n, Value.ref.injEq, reduceCtorEq, exists_eq_left', exists_eq_left, exists_eq', exists_eq, true_and, and_true, false_and, and_false, List.length_cons, List.length_nil, List.take_succ_cons, List.take_zero, List.drop_succ_cons, List.drop_zero, List.reverse_cons, List.reverse_nil, List.nil_append, List.cons_append, List.append_nil, List.getElem?_cons_zero, List.getElem?_cons_succ, List.map_cons, List.map_nil, List.sum_cons, List.sum_nil, kx_cat_i, kx_cat_r, kx_cat_n, kx_cat_l, kx_cat_v, Nat.reduceAdd, Nat.reduceSub, Nat.reduceEqDiff, Nat.reduceLeDiff, Nat.reduceMul, Nat.reduceLT, Nat.add_zero, Nat.zero_add, Nat.sub_zero, Nat.sub_self, Nat.le_refl, Nat.zero_le, ↓reduceIte, not_true_eq_false, not_false_eq_true, or_true, true_or, or_false, false_or, Option.some.injEq, ne_eq, implies_true, forall_const, forall_eq', forall_eq, and_self, or_self, Bool.or_true, Bool.or_false, Bool.true_or, Bool.false_or, Bool.and_true, Bool.and_false, Bool.true_and, Bool.false_and, Option.toList_some, Option.toList_none, Nat.succ_ne_zero, false_implies, true_implies, kx_l0, kd_sI, kd_sR, kd_sA, kd_sL, fI_sI_eq, fI_sI_ne, fR_sI, aI_sI, mL_sI, ln_sI, fR_sR_eq, fR_sR_ne, fI_sR, aI_sR, mL_sR, ln_sR, fI_sA, fR_sA, mL_sA, ln_sA, fI_sL, fR_sL, aI_sL, ln_sL, lo_X9_takeBack_0, lo_X9_takeBack_1, lo_X9_takeBack_2, lo_X9_takeBack_3, lo_X9_takeBack_6, lo_X9_takeBack_7, lo_X9_takeBack_10, lo_X9_takeBack_13, lo_X9_takeBack_14, lo_X9_takeBack_17, lo_X9_takeBack_18, lo_X9_takeBack_21, lo_X9_takeBack_22, lo_X9_takeBack_25, lo_X9_takeBack_26, lo_X9_takeBack_29, lo_X9_takeBack_32, lo_X9_takeBack_35, lo_X9_takeBack_36, lo_X9_takeBack_39, lo_X9_takeBack_40, lo_X9_takeBack_43, lo_X9_takeBack_46, lo_X9_takeBack_47, lo_X9_takeBack_48, lo_X9_takeBack_51, lo_X9_takeBack_52, f2_Jx4a65c_isEmpty_aae02, f2_Jx4a65c_size_8abf5, f2_Jx4a65c_remove_915e3, h1, h2]
  refine ⟨0, 0, by decide, by decide, (c2_X9_book E (sg := -1) h1 h2 h3 h4 h5 h6 h7 h8 h9 h10).mono ?_⟩
  rintro v M1 ⟨rfl, hM1⟩
  have b1 : kd M1 = kd M := by rw [hM1, kd_eBook]
  have b2 : fR M1 = fR M := by rw [hM1, fR_eBook]
  have b3 : mL M1 = mL M := by rw [hM1, mL_eBook]
  have b4 : fI M1 129 t = fI M 129 t := by rw [hM1, fI_eBook_o 129 t (by decide) (by decide)]
  have key : ∀ M2 : kx_M, M2 = (if fI M 129 t = 2 then sI M1 129 t 0 else M1) → kd M2 = kd M → fR M2 = fR M → mL M2 = mL M → G 0 0 25 [(0, .ref m), (1, .ref s)] [] M2 := by
    intro M2 hM2 s1 s2 s3
    have t1 : kd M2 m = 11 := by rw [s1, h1]
    have t2 : fR M2 206 m = some tl := by rw [s2, h11]
    have t3 : kd M2 tl = 1 := by rw [s1, h12]
    have t4 : mL M2 tl = mL M tl := by rw [s3]
    refine kx_run_ok hG (kx_in [6, 25]) 60 _ _ _ _ _ _ ?_
    simp only [kx_run_s, kx_run_z, kx_in, kx_beq, decide_true, decide_false, cond_true, cond_false, t_push, t_il, t_ll, t_al, t_is, t_ls, t_as, t_inc, t_bin, t_dv, t_lbin, t_lcmp, t_itl, t_dup, t_pop, t_dupx, t_go, t_gk, cutL, t_if, t_ic, t_nul, t_acmp, t_gI, t_gR, t_pI, t_pZ, t_pR, t_new, t_nwa, t_ial, t_ias, t_aln, t_cst, t_sln, t_sld, t_iret, t_zret, t_lret, t_aret, t_vret, t_no, t_call, t_fun, t_sw, sw_to0, t_oin, t_mm, t_qal, t_qas, t_qln, t_nwq, t_gcl, t_acp, lk, up1, cl1, up2, cl2, kx_c2, lv_args, kx_sum, kx_isr_r, kx_isr_n, kx_isr_v, kx_ex_r, kx_ex_n, kx_ex_v, kx_ex2_r, kx_ex2_n, kx_ex2_v, va_rf_s, va_rf_n, Value.ref.injEq, reduceCtorEq, exists_eq_left', exists_eq_left, exists_eq', exists_eq, true_and, and_true, false_and, and_false, List.length_cons, List.length_nil, List.take_succ_cons, List.take_zero, List.drop_succ_cons, List.drop_zero, List.reverse_cons, List.reverse_nil, List.nil_append, List.cons_append, List.append_nil, List.getElem?_cons_zero, List.getElem?_cons_succ, List.map_cons, List.map_nil, List.sum_cons, List.sum_nil, kx_cat_i, kx_cat_r, kx_cat_n, kx_cat_l, kx_cat_v, Nat.reduceAdd, Nat.reduceSub, Nat.reduceEqDiff, Nat.reduceLeDiff, Nat.reduceMul, Nat.reduceLT, Nat.add_zero, Nat.zero_add, Nat.sub_zero, Nat.sub_self, Nat.le_refl, Nat.zero_le, ↓reduceIte, not_true_eq_false, not_false_eq_true, or_true, true_or, or_false, false_or, Option.some.injEq, ne_eq, implies_true, forall_const, forall_eq', forall_eq, and_self, or_self, Bool.or_true, Bool.or_false, Bool.true_or, Bool.false_or, Bool.and_true, Bool.and_false, Bool.true_and, Bool.false_and, Option.toList_some, Option.toList_none, Nat.succ_ne_zero, false_implies, true_implies, kx_l0, kd_sI, kd_sR, kd_sA, kd_sL, fI_sI_eq, fI_sI_ne, fR_sI, aI_sI, mL_sI, ln_sI, fR_sR_eq, fR_sR_ne, fI_sR, aI_sR, mL_sR, ln_sR, fI_sA, fR_sA, mL_sA, ln_sA, fI_sL, fR_sL, aI_sL, ln_sL, lo_X9_takeBack_0, lo_X9_takeBack_1, lo_X9_takeBack_2, lo_X9_takeBack_3, lo_X9_takeBack_6, lo_X9_takeBack_7, lo_X9_takeBack_10, lo_X9_takeBack_13, lo_X9_takeBack_14, lo_X9_takeBack_17, lo_X9_takeBack_18, lo_X9_takeBack_21, lo_X9_takeBack_22, lo_X9_takeBack_25, lo_X9_takeBack_26, lo_X9_takeBack_29, lo_X9_takeBack_32, lo_X9_takeBack_35, lo_X9_takeBack_36, lo_X9_takeBack_39, lo_X9_takeBack_40, lo_X9_takeBack_43, lo_X9_takeBack_46, lo_X9_takeBack_47, lo_X9_takeBack_48, lo_X9_takeBack_51, lo_X9_takeBack_52, f2_Jx4a65c_isEmpty_aae02, f2_Jx4a65c_size_8abf5, f2_Jx4a65c_remove_915e3, t1, t2, t3, t4]
    have hTB : eTakeBack M m t b g oo (-1 * fI M 163 s) (-1 * fI M 166 s) (-1 * fI M 164 s * fI M 163 s) (-1 * vShare (fI M 164 s * fI M 163 s)) tl = if (mL M tl).length = 0 then M2 else sL M2 tl ((mL M tl).eraseIdx ((mL M tl).length - 1)) := by
      unfold eTakeBack
      rw [hM2, hM1]
    rw [hTB]
    by_cases hz : (mL M tl).length = 0
    · rw [if_pos hz]
      exact ⟨fun _ => by rw [if_pos hz], fun z => (z (fun y => absurd y (by decide))).elim⟩
    · rw [if_neg hz]
      obtain ⟨n, hn⟩ : ∃ n, (mL M tl).length = n + 1 := ⟨(mL M tl).length - 1, by omega⟩
      refine ⟨fun z => absurd rfl z, fun _ => ?_⟩
      have hp : Int32.ofNat (n + 1) - 1 = nI n := nI_pred n
      rw [hn, hp, if_neg (by omega), Nat.add_sub_cancel, nI_clamp (by omega)]
      exact ⟨⟨nI_pos' (by omega), nI_lt (by omega) (by omega)⟩, rfl⟩
  have c1 : kd M1 s = 9 := by rw [b1, h2]
  have c2 : fR M1 160 s = some t := by rw [b2, h3]
  have c3 : kd M1 t = 7 := by rw [b1, h4]
  refine kx_run_ok hG (kx_in [6, 25]) 60 _ _ _ _ _ _ ?_
  simp only [kx_run_s, kx_run_z, kx_in, kx_beq, decide_true, decide_false, cond_true, cond_false, t_push, t_il, t_ll, t_al, t_is, t_ls, t_as, t_inc, t_bin, t_dv, t_lbin, t_lcmp, t_itl, t_dup, t_pop, t_dupx, t_go, t_gk, cutL, t_if, t_ic, t_nul, t_acmp, t_gI, t_gR, t_pI, t_pZ, t_pR, t_new, t_nwa, t_ial, t_ias, t_aln, t_cst, t_sln, t_sld, t_iret, t_zret, t_lret, t_aret, t_vret, t_no, t_call, t_fun, t_sw, sw_to0, t_oin, t_mm, t_qal, t_qas, t_qln, t_nwq, t_gcl, t_acp, lk, up1, cl1, up2, cl2, kx_c2, lv_args, kx_sum, kx_isr_r, kx_isr_n, kx_isr_v, kx_ex_r, kx_ex_n, kx_ex_v, kx_ex2_r, kx_ex2_n, kx_ex2_v, va_rf_s, va_rf_n, Value.ref.injEq, reduceCtorEq, exists_eq_left', exists_eq_left, exists_eq', exists_eq, true_and, and_true, false_and, and_false, List.length_cons, List.length_nil, List.take_succ_cons, List.take_zero, List.drop_succ_cons, List.drop_zero, List.reverse_cons, List.reverse_nil, List.nil_append, List.cons_append, List.append_nil, List.getElem?_cons_zero, List.getElem?_cons_succ, List.map_cons, List.map_nil, List.sum_cons, List.sum_nil, kx_cat_i, kx_cat_r, kx_cat_n, kx_cat_l, kx_cat_v, Nat.reduceAdd, Nat.reduceSub, Nat.reduceEqDiff, Nat.reduceLeDiff, Nat.reduceMul, Nat.reduceLT, Nat.add_zero, Nat.zero_add, Nat.sub_zero, Nat.sub_self, Nat.le_refl, Nat.zero_le, ↓reduceIte, not_true_eq_false, not_false_eq_true, or_true, true_or, or_false, false_or, Option.some.injEq, ne_eq, implies_true, forall_const, forall_eq', forall_eq, and_self, or_self, Bool.or_true, Bool.or_false, Bool.true_or, Bool.false_or, Bool.and_true, Bool.and_false, Bool.true_and, Bool.false_and, Option.toList_some, Option.toList_none, Nat.succ_ne_zero, false_implies, true_implies, kx_l0, kd_sI, kd_sR, kd_sA, kd_sL, fI_sI_eq, fI_sI_ne, fR_sI, aI_sI, mL_sI, ln_sI, fR_sR_eq, fR_sR_ne, fI_sR, aI_sR, mL_sR, ln_sR, fI_sA, fR_sA, mL_sA, ln_sA, fI_sL, fR_sL, aI_sL, ln_sL, lo_X9_takeBack_0, lo_X9_takeBack_1, lo_X9_takeBack_2, lo_X9_takeBack_3, lo_X9_takeBack_6, lo_X9_takeBack_7, lo_X9_takeBack_10, lo_X9_takeBack_13, lo_X9_takeBack_14, lo_X9_takeBack_17, lo_X9_takeBack_18, lo_X9_takeBack_21, lo_X9_takeBack_22, lo_X9_takeBack_25, lo_X9_takeBack_26, lo_X9_takeBack_29, lo_X9_takeBack_32, lo_X9_takeBack_35, lo_X9_takeBack_36, lo_X9_takeBack_39, lo_X9_takeBack_40, lo_X9_takeBack_43, lo_X9_takeBack_46, lo_X9_takeBack_47, lo_X9_takeBack_48, lo_X9_takeBack_51, lo_X9_takeBack_52, f2_Jx4a65c_isEmpty_aae02, f2_Jx4a65c_size_8abf5, f2_Jx4a65c_remove_915e3, c1, c2, c3, b4]
  refine ⟨fun z => ?_, fun z => ?_⟩
  · exact key M1 (by rw [if_neg z]) b1 b2 b3
  · exact key _ (by rw [if_pos (Decidable.not_not.mp z)]) b1 b2 b3
theorem kd_eUnload (M : kx_M) (m q : Nat) : kd (eUnload M m q) = kd M := by
  unfold eUnload
  split
  · exact kd_ePut _ _ _ _
  · split
    · exact kd_ePut _ _ _ _
    · rfl
theorem mL_eUnload (M : kx_M) (m q : Nat) : mL (eUnload M m q) = mL M := by
  unfold eUnload
  split
  · exact mL_ePut _ _ _ _
  · split
    · exact mL_ePut _ _ _ _
    · rfl
theorem fR_eUnload (M : kx_M) (m q : Nat) : fR (eUnload M m q) = fR M := by
  unfold eUnload
  split
  · exact fR_ePut _ _ _ _
  · split
    · exact fR_ePut _ _ _ _
    · rfl
set_option maxRecDepth 16000 in
theorem f2_X9_runRail_ok (E : kx_E) {av : List Value} {M : kx_M} (h : (f2_X9_runRail E av M).1) : c2t_X9_runRail E av M 0 0 (fun v M1 => v.toList = (f2_X9_runRail E av M).2.1 ∧ M1 = (f2_X9_runRail E av M).2.2) := by
  revert h
  unfold f2_X9_runRail
  split
  · rename_i m
    intro h
    obtain ⟨⟨h1, t, h2, h3, h4, h5⟩, h6⟩ := h
    have hr : rf M 206 m = t := by unfold rf; rw [h2]; rfl
    refine en_X9_runRail E (Nat.le_of_ble_eq_true rfl) (fun G hG => kx_run_ok hG (kx_in [2]) 60 _ _ _ _ _ _ ?_)
    simp only [kx_run_s, kx_run_z, kx_in, kx_beq, decide_true, decide_false, cond_true, cond_false, t_push, t_il, t_ll, t_al, t_is, t_ls, t_as, t_inc, t_bin, t_dv, t_lbin, t_lcmp, t_itl, t_dup, t_pop, t_dupx, t_go, t_gk, cutL, t_if, t_ic, t_nul, t_acmp, t_gI, t_gR, t_pI, t_pZ, t_pR, t_new, t_nwa, t_ial, t_ias, t_aln, t_cst, t_sln, t_sld, t_iret, t_zret, t_lret, t_aret, t_vret, t_no, t_call, t_fun, t_sw, sw_to0, t_oin, t_mm, t_qal, t_qas, t_qln, t_nwq, t_gcl, t_acp, lk, up1, cl1, up2, cl2, kx_c2, lv_args, kx_sum, kx_isr_r, kx_isr_n, kx_isr_v, kx_ex_r, kx_ex_n, kx_ex_v, kx_ex2_r, kx_ex2_n, kx_ex2_v, va_rf_s, va_rf_n, Value.ref.injEq, reduceCtorEq, exists_eq_left', exists_eq_left, exists_eq', exists_eq, true_and, and_true, false_and, and_false, List.length_cons, List.length_nil, List.take_succ_cons, List.take_zero, List.drop_succ_cons, List.drop_zero, List.reverse_cons, List.reverse_nil, List.nil_append, List.cons_append, List.append_nil, List.getElem?_cons_zero, List.getElem?_cons_succ, List.map_cons, List.map_nil, List.sum_cons, List.sum_nil, kx_cat_i, kx_cat_r, kx_cat_n, kx_cat_l, kx_cat_v, Nat.reduceAdd, Nat.reduceSub, Nat.reduceEqDiff, Nat.reduceLeDiff, Nat.reduceMul, Nat.reduceLT, Nat.add_zero, Nat.zero_add, Nat.sub_zero, Nat.sub_self, Nat.le_refl, Nat.zero_le, ↓reduceIte, not_true_eq_false, not_false_eq_true, or_true, true_or, or_false, false_or, Option.some.injEq, ne_eq, implies_true, forall_const, forall_eq', forall_eq, and_self, or_self, Bool.or_true, Bool.or_false, Bool.true_or, Bool.false_or, Bool.and_true, Bool.and_false, Bool.true_and, Bool.false_and, Option.toList_some, Option.toList_none, Nat.succ_ne_zero, false_implies, true_implies, kx_l0, kd_sI, kd_sR, kd_sA, kd_sL, fI_sI_eq, fI_sI_ne, fR_sI, aI_sI, mL_sI, ln_sI, fR_sR_eq, fR_sR_ne, fI_sR, aI_sR, mL_sR, ln_sR, fI_sA, fR_sA, mL_sA, ln_sA, fI_sL, fR_sL, aI_sL, ln_sL, lo_X9_runRail_0, lo_X9_runRail_1, lo_X9_runRail_2, lo_X9_runRail_3, lo_X9_runRail_4, lo_X9_runRail_7, lo_X9_runRail_10, lo_X9_runRail_11, lo_X9_runRail_14, lo_X9_runRail_17, lo_X9_runRail_20, lo_X9_runRail_21, lo_X9_runRail_22, lo_X9_runRail_25, lo_X9_runRail_26, lo_X9_runRail_29, lo_X9_runRail_32, lo_X9_runRail_35, lo_X9_runRail_38, lo_X9_runRail_41, lo_X9_runRail_44, lo_X9_runRail_45, f2_Jx4a65c_isEmpty_aae02, f2_X9_nextOnRail, f2_Jx4a65c_remove_915e3, f2_X9_unload]
    have loop : ∀ (n : Nat) (i : Nat) (N : kx_M), i + n = 2 → kd N = kd M → fR N = fR M → (∀ x, x ≠ t → mL N x = mL M x) → (mL N t).length ≤ 1000 → (∀ q ∈ mL N t, kd M q = 10 ∧ ∃ b, fR M 180 q = some b ∧ kd M b = 2 ∧ ∃ s, fR M 22 b = some s ∧ kd M s = 3) → fI N 213 m = 2 → eRailN m n M (N, nI i) = eRailN m 2 M (M, 0) → G 0 0 2 [(0, .ref m), (1, .int (nI i))] [] N := by
      intro n
      induction n with
      | zero =>
        intro i N hi hk hR hL hl hq hs he
        have hi2 : i = 2 := by omega
        subst hi2
        have e2 : ((2 : Int32) ≤ nI 2) = True := eq_true (by decide)
        have k1 : kd N m = 11 := by rw [hk, h1]
        refine kx_run_ok hG (kx_in [2]) 60 _ _ _ _ _ _ ?_
        simp only [kx_run_s, kx_run_z, kx_in, kx_beq, decide_true, decide_false, cond_true, cond_false, t_push, t_il, t_ll, t_al, t_is, t_ls, t_as, t_inc, t_bin, t_dv, t_lbin, t_lcmp, t_itl, t_dup, t_pop, t_dupx, t_go, t_gk, cutL, t_if, t_ic, t_nul, t_acmp, t_gI, t_gR, t_pI, t_pZ, t_pR, t_new, t_nwa, t_ial, t_ias, t_aln, t_cst, t_sln, t_sld, t_iret, t_zret, t_lret, t_aret, t_vret, t_no, t_call, t_fun, t_sw, sw_to0, t_oin, t_mm, t_qal, t_qas, t_qln, t_nwq, t_gcl, t_acp, lk, up1, cl1, up2, cl2, kx_c2, lv_args, kx_sum, kx_isr_r, kx_isr_n, kx_isr_v, kx_ex_r, kx_ex_n, kx_ex_v, kx_ex2_r, kx_ex2_n, kx_ex2_v, va_rf_s, va_rf_n, Value.ref.injEq, reduceCtorEq, exists_eq_left', exists_eq_left, exists_eq', exists_eq, true_and, and_true, false_and, and_false, List.length_cons, List.length_nil, List.take_succ_cons, List.take_zero, List.drop_succ_cons, List.drop_zero, List.reverse_cons, List.reverse_nil, List.nil_append, List.cons_append, List.append_nil, List.getElem?_cons_zero, List.getElem?_cons_succ, List.map_cons, List.map_nil, List.sum_cons, List.sum_nil, kx_cat_i, kx_cat_r, kx_cat_n, kx_cat_l, kx_cat_v, Nat.reduceAdd, Nat.reduceSub, Nat.reduceEqDiff, Nat.reduceLeDiff, Nat.reduceMul, Nat.reduceLT, Nat.add_zero, Nat.zero_add, Nat.sub_zero, Nat.sub_self, Nat.le_refl, Nat.zero_le, ↓reduceIte, not_true_eq_false, not_false_eq_true, or_true, true_or, or_false, false_or, Option.some.injEq, ne_eq, implies_true, forall_const, forall_eq', forall_eq, and_self, or_self, Bool.or_true, Bool.or_false, Bool.true_or, Bool.false_or, Bool.and_true, Bool.and_false, Bool.true_and, Bool.false_and, Option.toList_some, Option.toList_none, Nat.succ_ne_zero, false_implies, true_implies, kx_l0, kd_sI, kd_sR, kd_sA, kd_sL, fI_sI_eq, fI_sI_ne, fR_sI, aI_sI, mL_sI, ln_sI, fR_sR_eq, fR_sR_ne, fI_sR, aI_sR, mL_sR, ln_sR, fI_sA, fR_sA, mL_sA, ln_sA, fI_sL, fR_sL, aI_sL, ln_sL, lo_X9_runRail_0, lo_X9_runRail_1, lo_X9_runRail_2, lo_X9_runRail_3, lo_X9_runRail_4, lo_X9_runRail_7, lo_X9_runRail_10, lo_X9_runRail_11, lo_X9_runRail_14, lo_X9_runRail_17, lo_X9_runRail_20, lo_X9_runRail_21, lo_X9_runRail_22, lo_X9_runRail_25, lo_X9_runRail_26, lo_X9_runRail_29, lo_X9_runRail_32, lo_X9_runRail_35, lo_X9_runRail_38, lo_X9_runRail_41, lo_X9_runRail_44, lo_X9_runRail_45, f2_Jx4a65c_isEmpty_aae02, f2_X9_nextOnRail, f2_Jx4a65c_remove_915e3, f2_X9_unload, k1, hs, e2]
        rw [← he]
        exact ⟨rfl, rfl⟩
      | succ n ih =>
        intro i N hi hk hR hL hl hq hs he
        have e2 : ((2 : Int32) ≤ nI i) = False := eq_false (nI_ge (a := i) (b := 2) (by omega) (by decide))
        have k1 : kd N m = 11 := by rw [hk, h1]
        have k2 : fR N 206 m = some t := by rw [hR, h2]
        have k3 : kd N t = 1 := by rw [hk, h3]
        have hrN : rf N 206 m = t := by unfold rf; rw [k2]; rfl
        by_cases hz : (mL N t).length = 0
        · have hE : eRailN m (n + 1) M (N, nI i) = (N, nI i) := by
            unfold eRailN
            rw [hr, if_pos hz]
          refine kx_run_ok hG (kx_in [2]) 60 _ _ _ _ _ _ ?_
          simp only [kx_run_s, kx_run_z, kx_in, kx_beq, decide_true, decide_false, cond_true, cond_false, t_push, t_il, t_ll, t_al, t_is, t_ls, t_as, t_inc, t_bin, t_dv, t_lbin, t_lcmp, t_itl, t_dup, t_pop, t_dupx, t_go, t_gk, cutL, t_if, t_ic, t_nul, t_acmp, t_gI, t_gR, t_pI, t_pZ, t_pR, t_new, t_nwa, t_ial, t_ias, t_aln, t_cst, t_sln, t_sld, t_iret, t_zret, t_lret, t_aret, t_vret, t_no, t_call, t_fun, t_sw, sw_to0, t_oin, t_mm, t_qal, t_qas, t_qln, t_nwq, t_gcl, t_acp, lk, up1, cl1, up2, cl2, kx_c2, lv_args, kx_sum, kx_isr_r, kx_isr_n, kx_isr_v, kx_ex_r, kx_ex_n, kx_ex_v, kx_ex2_r, kx_ex2_n, kx_ex2_v, va_rf_s, va_rf_n, Value.ref.injEq, reduceCtorEq, exists_eq_left', exists_eq_left, exists_eq', exists_eq, true_and, and_true, false_and, and_false, List.length_cons, List.length_nil, List.take_succ_cons, List.take_zero, List.drop_succ_cons, List.drop_zero, List.reverse_cons, List.reverse_nil, List.nil_append, List.cons_append, List.append_nil, List.getElem?_cons_zero, List.getElem?_cons_succ, List.map_cons, List.map_nil, List.sum_cons, List.sum_nil, kx_cat_i, kx_cat_r, kx_cat_n, kx_cat_l, kx_cat_v, Nat.reduceAdd, Nat.reduceSub, Nat.reduceEqDiff, Nat.reduceLeDiff, Nat.reduceMul, Nat.reduceLT, Nat.add_zero, Nat.zero_add, Nat.sub_zero, Nat.sub_self, Nat.le_refl, Nat.zero_le, ↓reduceIte, not_true_eq_false, not_false_eq_true, or_true, true_or, or_false, false_or, Option.some.injEq, ne_eq, implies_true, forall_const, forall_eq', forall_eq, and_self, or_self, Bool.or_true, Bool.or_false, Bool.true_or, Bool.false_or, Bool.and_true, Bool.and_false, Bool.true_and, Bool.false_and, Option.toList_some, Option.toList_none, Nat.succ_ne_zero, false_implies, true_implies, kx_l0, kd_sI, kd_sR, kd_sA, kd_sL, fI_sI_eq, fI_sI_ne, fR_sI, aI_sI, mL_sI, ln_sI, fR_sR_eq, fR_sR_ne, fI_sR, aI_sR, mL_sR, ln_sR, fI_sA, fR_sA, mL_sA, ln_sA, fI_sL, fR_sL, aI_sL, ln_sL, lo_X9_runRail_0, lo_X9_runRail_1, lo_X9_runRail_2, lo_X9_runRail_3, lo_X9_runRail_4, lo_X9_runRail_7, lo_X9_runRail_10, lo_X9_runRail_11, lo_X9_runRail_14, lo_X9_runRail_17, lo_X9_runRail_20, lo_X9_runRail_21, lo_X9_runRail_22, lo_X9_runRail_25, lo_X9_runRail_26, lo_X9_runRail_29, lo_X9_runRail_32, lo_X9_runRail_35, lo_X9_runRail_38, lo_X9_runRail_41, lo_X9_runRail_44, lo_X9_runRail_45, f2_Jx4a65c_isEmpty_aae02, f2_X9_nextOnRail, f2_Jx4a65c_remove_915e3, f2_X9_unload, k1, k2, k3, hs, e2, hz]
          rw [← he, hE]
          exact ⟨fun _ => ⟨rfl, rfl⟩, fun z => (z (fun y => absurd y (by decide))).elim⟩
        · have hlt := vNr_lt N hz
          obtain ⟨q, hqe⟩ : ∃ q, (mL N t)[vNr N (mL N t)]? = some q := ⟨_, List.getElem?_eq_getElem hlt⟩
          have hqm : q ∈ mL N t := List.mem_of_getElem? hqe
          obtain ⟨p1, b, p2, p3, s, p4, p5⟩ := hq q hqm
          have hE : eRailN m (n + 1) M (N, nI i) = eRailN m n M (eRail1 m N, nI i + 1) := by
            conv => lhs; unfold eRailN
            rw [hr, if_neg hz]
          have hcl : (nI (vNr N (mL N t))).toNatClampNeg = vNr N (mL N t) := nI_clamp (by omega)
          have hU : eRail1 m N = eUnload (sL N t ((mL N t).eraseIdx (vNr N (mL N t)))) m q := by
            unfold eRail1
            rw [hrN, hqe]
            rfl
          have c1 : (0 ≤ nI (vNr N (mL N t))) = True := eq_true (nI_pos' (by omega))
          have c2 : (nI (vNr N (mL N t)) < Int32.ofNat (mL N t).length) = True := eq_true (nI_lt (b := (mL N t).length) hlt (by omega))
          have d1 : kd N q = 10 := by rw [hk, p1]
          have d2 : fR N 180 q = some b := by rw [hR, p2]
          have d3 : kd N b = 2 := by rw [hk, p3]
          have d4 : fR N 22 b = some s := by rw [hR, p4]
          have d5 : kd N s = 3 := by rw [hk, p5]
          have hpr : pRail N m = True := eq_true ⟨k1, t, k2, k3, hl, fun q hq' => by rw [hk, hR]; exact hq q hq'⟩
          have hmT : mL (eRail1 m N) t = (mL N t).eraseIdx (vNr N (mL N t)) := by rw [hU, mL_eUnload, mL_sL_eq]
          have hn := ih (i + 1) (eRail1 m N) (by omega) (by rw [hU, kd_eUnload, kd_sL, hk]) (by rw [hU, fR_eUnload, fR_sL, hR]) (fun x hx => by rw [hU, mL_eUnload, mL_sL_ne _ _ _ _ hx, hL x hx]) (by rw [hmT]; exact Nat.le_trans (List.length_eraseIdx_le _ _) hl) (fun q hq' => by rw [hmT] at hq'; exact hq q (List.mem_of_mem_eraseIdx hq')) (by
            have : ∀ X : kx_M, fI (eUnload X m q) 213 m = fI X 213 m := fun X => by
              unfold eUnload
              split
              · rw [fI_ePut]
              · split
                · rw [fI_ePut]
                · exact fI_sI_ne _ _ _ _ _ _ (by decide)
            rw [hU, this, fI_sL, hs]) (by rw [← nI_1, ← hE, he])
          rw [hU, ← nI_1] at hn
          refine kx_run_ok hG (kx_in [2]) 60 _ _ _ _ _ _ ?_
          simp only [kx_run_s, kx_run_z, kx_in, kx_beq, decide_true, decide_false, cond_true, cond_false, t_push, t_il, t_ll, t_al, t_is, t_ls, t_as, t_inc, t_bin, t_dv, t_lbin, t_lcmp, t_itl, t_dup, t_pop, t_dupx, t_go, t_gk, cutL, t_if, t_ic, t_nul, t_acmp, t_gI, t_gR, t_pI, t_pZ, t_pR, t_new, t_nwa, t_ial, t_ias, t_aln, t_cst, t_sln, t_sld, t_iret, t_zret, t_lret, t_aret, t_vret, t_no, t_call, t_fun, t_sw, sw_to0, t_oin, t_mm, t_qal, t_qas, t_qln, t_nwq, t_gcl, t_acp, lk, up1, cl1, up2, cl2, kx_c2, lv_args, kx_sum, kx_isr_r, kx_isr_n, kx_isr_v, kx_ex_r, kx_ex_n, kx_ex_v, kx_ex2_r, kx_ex2_n, kx_ex2_v, va_rf_s, va_rf_n, Value.ref.injEq, reduceCtorEq, exists_eq_left', exists_eq_left, exists_eq', exists_eq, true_and, and_true, false_and, and_false, List.length_cons, List.length_nil, List.take_succ_cons, List.take_zero, List.drop_succ_cons, List.drop_zero, List.reverse_cons, List.reverse_nil, List.nil_append, List.cons_append, List.append_nil, List.getElem?_cons_zero, List.getElem?_cons_succ, List.map_cons, List.map_nil, List.sum_cons, List.sum_nil, kx_cat_i, kx_cat_r, kx_cat_n, kx_cat_l, kx_cat_v, Nat.reduceAdd, Nat.reduceSub, Nat.reduceEqDiff, Nat.reduceLeDiff, Nat.reduceMul, Nat.reduceLT, Nat.add_zero, Nat.zero_add, Nat.sub_zero, Nat.sub_self, Nat.le_refl, Nat.zero_le, ↓reduceIte, not_true_eq_false, not_false_eq_true, or_true, true_or, or_false, false_or, Option.some.injEq, ne_eq, implies_true, forall_const, forall_eq', forall_eq, and_self, or_self, Bool.or_true, Bool.or_false, Bool.true_or, Bool.false_or, Bool.and_true, Bool.and_false, Bool.true_and, Bool.false_and, Option.toList_some, Option.toList_none, Nat.succ_ne_zero, false_implies, true_implies, kx_l0, kd_sI, kd_sR, kd_sA, kd_sL, fI_sI_eq, fI_sI_ne, fR_sI, aI_sI, mL_sI, ln_sI, fR_sR_eq, fR_sR_ne, fI_sR, aI_sR, mL_sR, ln_sR, fI_sA, fR_sA, mL_sA, ln_sA, fI_sL, fR_sL, aI_sL, ln_sL, lo_X9_runRail_0, lo_X9_runRail_1, lo_X9_runRail_2, lo_X9_runRail_3, lo_X9_runRail_4, lo_X9_runRail_7, lo_X9_runRail_10, lo_X9_runRail_11, lo_X9_runRail_14, lo_X9_runRail_17, lo_X9_runRail_20, lo_X9_runRail_21, lo_X9_runRail_22, lo_X9_runRail_25, lo_X9_runRail_26, lo_X9_runRail_29, lo_X9_runRail_32, lo_X9_runRail_35, lo_X9_runRail_38, lo_X9_runRail_41, lo_X9_runRail_44, lo_X9_runRail_45, f2_Jx4a65c_isEmpty_aae02, f2_X9_nextOnRail, f2_Jx4a65c_remove_915e3, f2_X9_unload, k1, k2, k3, hs, e2, hz, hpr, hrN, c1, c2, hcl, hqe, d1, d2, d3, d4, d5]
          exact hn
    exact loop 2 0 M rfl rfl rfl (fun _ _ => rfl) h4 h5 h6 rfl
  · intro h; exact h.elim
theorem f2_X9_runRail_rc (E : kx_E) {av : List Value} {M : kx_M} (h : (f2_X9_runRail E av M).1) : ∃ (a : Nat) (as : List Value), av = .ref a :: as ∧ kd M a = 11 := by
  unfold f2_X9_runRail at h
  split at h
  · exact ⟨_, _, rfl, h.1.1⟩
  · exact h.elim
theorem kd_eBindOne (M : kx_M) (s : Nat) : kd (eBindOne M s) = kd M := by unfold eBindOne; simp only [kd_sA]
theorem fR_eBindOne (M : kx_M) (s : Nat) : fR (eBindOne M s) = fR M := by unfold eBindOne; simp only [fR_sA]
theorem fI_eBindOne (M : kx_M) (s : Nat) : fI (eBindOne M s) = fI M := by unfold eBindOne; simp only [fI_sA]
theorem mL_eBindOne (M : kx_M) (s : Nat) : mL (eBindOne M s) = mL M := by unfold eBindOne; simp only [mL_sA]
set_option maxRecDepth 16000 in
theorem f2_X9_bind_ok (E : kx_E) {av : List Value} {M : kx_M} (h : (f2_X9_bind E av M).1) : c2t_X9_bind E av M 0 0 (fun v M1 => v.toList = (f2_X9_bind E av M).2.1 ∧ M1 = (f2_X9_bind E av M).2.2) := by
  revert h
  unfold f2_X9_bind
  split
  · rename_i m i x
    intro h
    obtain ⟨⟨h1, t, b, h2, h3, h4, h5, h6, h7⟩, h8, h9, s, h10, h11⟩ := h
    have hr : rf M 204 m = t := by unfold rf; rw [h2]; rfl
    have he : el M 204 m i = b := by unfold el; rw [hr, h6]; rfl
    have h10' : fR M 22 b = some s := by rw [← he]; exact h10
    have hs : rf M 22 b = s := by unfold rf; rw [h10']; rfl
    have e8 : (x < 1) = False := eq_false (Int32.not_lt.mpr h8)
    have e9 : (99 < x) = False := eq_false (Int32.not_lt.mpr h9)
    have hx1 : 1 ≤ x.toInt := Int32.le_iff_toInt_le.mp h8
    have hx2 : x.toInt ≤ 99 := Int32.le_iff_toInt_le.mp h9
    have hcl : ((x.toNatClampNeg : Nat) : Int) = x.toInt := Int.toNat_of_nonneg (by omega)
    have hxn : x = nI x.toNatClampNeg := by
      refine Int32.toInt_inj.mp ?_
      show _ = (Int32.ofNat _).toInt
      rw [Int32.toInt_ofNat_of_lt (by omega), hcl]
    unfold eBind
    rw [he, hs]
    refine en_X9_bind E (Nat.le_of_ble_eq_true rfl) (fun G hG => kx_run_ok hG (kx_in [30]) 60 _ _ _ _ _ _ ?_)
    simp only [kx_run_s, kx_run_z, kx_in, kx_beq, decide_true, decide_false, cond_true, cond_false, t_push, t_il, t_ll, t_al, t_is, t_ls, t_as, t_inc, t_bin, t_dv, t_lbin, t_lcmp, t_itl, t_dup, t_pop, t_dupx, t_go, t_gk, cutL, t_if, t_ic, t_nul, t_acmp, t_gI, t_gR, t_pI, t_pZ, t_pR, t_new, t_nwa, t_ial, t_ias, t_aln, t_cst, t_sln, t_sld, t_iret, t_zret, t_lret, t_aret, t_vret, t_no, t_call, t_fun, t_sw, sw_to0, t_oin, t_mm, t_qal, t_qas, t_qln, t_nwq, t_gcl, t_acp, lk, up1, cl1, up2, cl2, kx_c2, lv_args, kx_sum, kx_isr_r, kx_isr_n, kx_isr_v, kx_ex_r, kx_ex_n, kx_ex_v, kx_ex2_r, kx_ex2_n, kx_ex2_v, va_rf_s, va_rf_n, Value.ref.injEq, reduceCtorEq, exists_eq_left', exists_eq_left, exists_eq', exists_eq, true_and, and_true, false_and, and_false, List.length_cons, List.length_nil, List.take_succ_cons, List.take_zero, List.drop_succ_cons, List.drop_zero, List.reverse_cons, List.reverse_nil, List.nil_append, List.cons_append, List.append_nil, List.getElem?_cons_zero, List.getElem?_cons_succ, List.map_cons, List.map_nil, List.sum_cons, List.sum_nil, kx_cat_i, kx_cat_r, kx_cat_n, kx_cat_l, kx_cat_v, Nat.reduceAdd, Nat.reduceSub, Nat.reduceEqDiff, Nat.reduceLeDiff, Nat.reduceMul, Nat.reduceLT, Nat.add_zero, Nat.zero_add, Nat.sub_zero, Nat.sub_self, Nat.le_refl, Nat.zero_le, ↓reduceIte, not_true_eq_false, not_false_eq_true, or_true, true_or, or_false, false_or, Option.some.injEq, ne_eq, implies_true, forall_const, forall_eq', forall_eq, and_self, or_self, Bool.or_true, Bool.or_false, Bool.true_or, Bool.false_or, Bool.and_true, Bool.and_false, Bool.true_and, Bool.false_and, Option.toList_some, Option.toList_none, Nat.succ_ne_zero, false_implies, true_implies, kx_l0, kd_sI, kd_sR, kd_sA, kd_sL, fI_sI_eq, fI_sI_ne, fR_sI, aI_sI, mL_sI, ln_sI, fR_sR_eq, fR_sR_ne, fI_sR, aI_sR, mL_sR, ln_sR, fI_sA, fR_sA, mL_sA, ln_sA, fI_sL, fR_sL, aI_sL, ln_sL, lo_X9_bind_0, lo_X9_bind_1, lo_X9_bind_2, lo_X9_bind_5, lo_X9_bind_6, lo_X9_bind_7, lo_X9_bind_8, lo_X9_bind_10, lo_X9_bind_13, lo_X9_bind_16, lo_X9_bind_27, lo_X9_bind_28, lo_X9_bind_30, lo_X9_bind_32, lo_X9_bind_33, lo_X9_bind_36, lo_X9_bind_37, lo_X9_bind_40, lo_X9_bind_43, lo_X9_bind_46, lo_X9_bind_49, lo_X9_bind_52, lo_X9_bind_53, lo_X9_bind_54, lo_X9_bind_57, lo_X9_bind_59, lo_X9_bind_60, lo_X9_bind_63, lo_X9_bind_65, f2_X9_buyerAt, f2_X9_isWithin, f2_X9_bindsOne, h1, h2, h3, h4, h5, h6, h7, hr, vIn, kx_10, e8, e9]
    have hle : ∀ k : Nat, k < 1000 → (x ≤ nI k) = (x.toNatClampNeg ≤ k) := fun k hk => by
      conv => lhs; rw [hxn]
      exact i32_le (by omega) (by omega)
    generalize hn : x.toNatClampNeg = n at *
    have loop : ∀ (k j : Nat) (N : kx_M), j + k = n → kd N = kd M → fR N = fR M → eBindN s k (N, nI j) = eBindN s n (M, 0) → G 0 0 30 [(0, .ref m), (1, .int i), (2, .int x), (3, .ref b), (4, .int (nI j))] [] N := by
      intro k
      induction k with
      | zero =>
        intro j N hj hk hR hE
        have e1 : (x ≤ nI j) = True := by rw [hle j (by omega)]; exact eq_true (by omega)
        have k1 : kd N b = 2 := by rw [hk, h7]
        have hE' : eBindN s n (M, 0) = (N, nI j) := hE.symm
        refine kx_run_ok hG (kx_in [30]) 60 _ _ _ _ _ _ ?_
        simp only [kx_run_s, kx_run_z, kx_in, kx_beq, decide_true, decide_false, cond_true, cond_false, t_push, t_il, t_ll, t_al, t_is, t_ls, t_as, t_inc, t_bin, t_dv, t_lbin, t_lcmp, t_itl, t_dup, t_pop, t_dupx, t_go, t_gk, cutL, t_if, t_ic, t_nul, t_acmp, t_gI, t_gR, t_pI, t_pZ, t_pR, t_new, t_nwa, t_ial, t_ias, t_aln, t_cst, t_sln, t_sld, t_iret, t_zret, t_lret, t_aret, t_vret, t_no, t_call, t_fun, t_sw, sw_to0, t_oin, t_mm, t_qal, t_qas, t_qln, t_nwq, t_gcl, t_acp, lk, up1, cl1, up2, cl2, kx_c2, lv_args, kx_sum, kx_isr_r, kx_isr_n, kx_isr_v, kx_ex_r, kx_ex_n, kx_ex_v, kx_ex2_r, kx_ex2_n, kx_ex2_v, va_rf_s, va_rf_n, Value.ref.injEq, reduceCtorEq, exists_eq_left', exists_eq_left, exists_eq', exists_eq, true_and, and_true, false_and, and_false, List.length_cons, List.length_nil, List.take_succ_cons, List.take_zero, List.drop_succ_cons, List.drop_zero, List.reverse_cons, List.reverse_nil, List.nil_append, List.cons_append, List.append_nil, List.getElem?_cons_zero, List.getElem?_cons_succ, List.map_cons, List.map_nil, List.sum_cons, List.sum_nil, kx_cat_i, kx_cat_r, kx_cat_n, kx_cat_l, kx_cat_v, Nat.reduceAdd, Nat.reduceSub, Nat.reduceEqDiff, Nat.reduceLeDiff, Nat.reduceMul, Nat.reduceLT, Nat.add_zero, Nat.zero_add, Nat.sub_zero, Nat.sub_self, Nat.le_refl, Nat.zero_le, ↓reduceIte, not_true_eq_false, not_false_eq_true, or_true, true_or, or_false, false_or, Option.some.injEq, ne_eq, implies_true, forall_const, forall_eq', forall_eq, and_self, or_self, Bool.or_true, Bool.or_false, Bool.true_or, Bool.false_or, Bool.and_true, Bool.and_false, Bool.true_and, Bool.false_and, Option.toList_some, Option.toList_none, Nat.succ_ne_zero, false_implies, true_implies, kx_l0, kd_sI, kd_sR, kd_sA, kd_sL, fI_sI_eq, fI_sI_ne, fR_sI, aI_sI, mL_sI, ln_sI, fR_sR_eq, fR_sR_ne, fI_sR, aI_sR, mL_sR, ln_sR, fI_sA, fR_sA, mL_sA, ln_sA, fI_sL, fR_sL, aI_sL, ln_sL, lo_X9_bind_0, lo_X9_bind_1, lo_X9_bind_2, lo_X9_bind_5, lo_X9_bind_6, lo_X9_bind_7, lo_X9_bind_8, lo_X9_bind_10, lo_X9_bind_13, lo_X9_bind_16, lo_X9_bind_27, lo_X9_bind_28, lo_X9_bind_30, lo_X9_bind_32, lo_X9_bind_33, lo_X9_bind_36, lo_X9_bind_37, lo_X9_bind_40, lo_X9_bind_43, lo_X9_bind_46, lo_X9_bind_49, lo_X9_bind_52, lo_X9_bind_53, lo_X9_bind_54, lo_X9_bind_57, lo_X9_bind_59, lo_X9_bind_60, lo_X9_bind_63, lo_X9_bind_65, f2_X9_buyerAt, f2_X9_isWithin, f2_X9_bindsOne, e1, k1]
        rw [hE']
        exact ⟨rfl, rfl⟩
      | succ k ih =>
        intro j N hj hk hR hE
        have e1 : (x ≤ nI j) = False := by rw [hle j (by omega)]; exact eq_false (by omega)
        have k1 : kd N b = 2 := by rw [hk, h7]
        have k2 : fR N 22 b = some s := by rw [hR, h10']
        have k3 : kd N s = 3 := by rw [hk, h11]
        by_cases hz : aI N s 0 < vZero N s
        · have hE' : eBindN s n (M, 0) = (N, nI j) := by
            rw [← hE]
            unfold eBindN
            rw [if_pos hz]
          refine kx_run_ok hG (kx_in [30]) 60 _ _ _ _ _ _ ?_
          simp only [kx_run_s, kx_run_z, kx_in, kx_beq, decide_true, decide_false, cond_true, cond_false, t_push, t_il, t_ll, t_al, t_is, t_ls, t_as, t_inc, t_bin, t_dv, t_lbin, t_lcmp, t_itl, t_dup, t_pop, t_dupx, t_go, t_gk, cutL, t_if, t_ic, t_nul, t_acmp, t_gI, t_gR, t_pI, t_pZ, t_pR, t_new, t_nwa, t_ial, t_ias, t_aln, t_cst, t_sln, t_sld, t_iret, t_zret, t_lret, t_aret, t_vret, t_no, t_call, t_fun, t_sw, sw_to0, t_oin, t_mm, t_qal, t_qas, t_qln, t_nwq, t_gcl, t_acp, lk, up1, cl1, up2, cl2, kx_c2, lv_args, kx_sum, kx_isr_r, kx_isr_n, kx_isr_v, kx_ex_r, kx_ex_n, kx_ex_v, kx_ex2_r, kx_ex2_n, kx_ex2_v, va_rf_s, va_rf_n, Value.ref.injEq, reduceCtorEq, exists_eq_left', exists_eq_left, exists_eq', exists_eq, true_and, and_true, false_and, and_false, List.length_cons, List.length_nil, List.take_succ_cons, List.take_zero, List.drop_succ_cons, List.drop_zero, List.reverse_cons, List.reverse_nil, List.nil_append, List.cons_append, List.append_nil, List.getElem?_cons_zero, List.getElem?_cons_succ, List.map_cons, List.map_nil, List.sum_cons, List.sum_nil, kx_cat_i, kx_cat_r, kx_cat_n, kx_cat_l, kx_cat_v, Nat.reduceAdd, Nat.reduceSub, Nat.reduceEqDiff, Nat.reduceLeDiff, Nat.reduceMul, Nat.reduceLT, Nat.add_zero, Nat.zero_add, Nat.sub_zero, Nat.sub_self, Nat.le_refl, Nat.zero_le, ↓reduceIte, not_true_eq_false, not_false_eq_true, or_true, true_or, or_false, false_or, Option.some.injEq, ne_eq, implies_true, forall_const, forall_eq', forall_eq, and_self, or_self, Bool.or_true, Bool.or_false, Bool.true_or, Bool.false_or, Bool.and_true, Bool.and_false, Bool.true_and, Bool.false_and, Option.toList_some, Option.toList_none, Nat.succ_ne_zero, false_implies, true_implies, kx_l0, kd_sI, kd_sR, kd_sA, kd_sL, fI_sI_eq, fI_sI_ne, fR_sI, aI_sI, mL_sI, ln_sI, fR_sR_eq, fR_sR_ne, fI_sR, aI_sR, mL_sR, ln_sR, fI_sA, fR_sA, mL_sA, ln_sA, fI_sL, fR_sL, aI_sL, ln_sL, lo_X9_bind_0, lo_X9_bind_1, lo_X9_bind_2, lo_X9_bind_5, lo_X9_bind_6, lo_X9_bind_7, lo_X9_bind_8, lo_X9_bind_10, lo_X9_bind_13, lo_X9_bind_16, lo_X9_bind_27, lo_X9_bind_28, lo_X9_bind_30, lo_X9_bind_32, lo_X9_bind_33, lo_X9_bind_36, lo_X9_bind_37, lo_X9_bind_40, lo_X9_bind_43, lo_X9_bind_46, lo_X9_bind_49, lo_X9_bind_52, lo_X9_bind_53, lo_X9_bind_54, lo_X9_bind_57, lo_X9_bind_59, lo_X9_bind_60, lo_X9_bind_63, lo_X9_bind_65, f2_X9_buyerAt, f2_X9_isWithin, f2_X9_bindsOne, e1, k1, k2, k3, hz]
          rw [hE']
          exact ⟨rfl, rfl⟩
        · have hE' : eBindN s (k + 1) (N, nI j) = eBindN s k (eBindOne N s, nI j + 1) := by
            conv => lhs; unfold eBindN
            rw [if_neg hz]
          have hn' := ih (j + 1) (eBindOne N s) (by omega) (by rw [kd_eBindOne, hk]) (by rw [fR_eBindOne, hR]) (by rw [← nI_1, ← hE', hE])
          rw [← nI_1] at hn'
          refine kx_run_ok hG (kx_in [30]) 60 _ _ _ _ _ _ ?_
          simp only [kx_run_s, kx_run_z, kx_in, kx_beq, decide_true, decide_false, cond_true, cond_false, t_push, t_il, t_ll, t_al, t_is, t_ls, t_as, t_inc, t_bin, t_dv, t_lbin, t_lcmp, t_itl, t_dup, t_pop, t_dupx, t_go, t_gk, cutL, t_if, t_ic, t_nul, t_acmp, t_gI, t_gR, t_pI, t_pZ, t_pR, t_new, t_nwa, t_ial, t_ias, t_aln, t_cst, t_sln, t_sld, t_iret, t_zret, t_lret, t_aret, t_vret, t_no, t_call, t_fun, t_sw, sw_to0, t_oin, t_mm, t_qal, t_qas, t_qln, t_nwq, t_gcl, t_acp, lk, up1, cl1, up2, cl2, kx_c2, lv_args, kx_sum, kx_isr_r, kx_isr_n, kx_isr_v, kx_ex_r, kx_ex_n, kx_ex_v, kx_ex2_r, kx_ex2_n, kx_ex2_v, va_rf_s, va_rf_n, Value.ref.injEq, reduceCtorEq, exists_eq_left', exists_eq_left, exists_eq', exists_eq, true_and, and_true, false_and, and_false, List.length_cons, List.length_nil, List.take_succ_cons, List.take_zero, List.drop_succ_cons, List.drop_zero, List.reverse_cons, List.reverse_nil, List.nil_append, List.cons_append, List.append_nil, List.getElem?_cons_zero, List.getElem?_cons_succ, List.map_cons, List.map_nil, List.sum_cons, List.sum_nil, kx_cat_i, kx_cat_r, kx_cat_n, kx_cat_l, kx_cat_v, Nat.reduceAdd, Nat.reduceSub, Nat.reduceEqDiff, Nat.reduceLeDiff, Nat.reduceMul, Nat.reduceLT, Nat.add_zero, Nat.zero_add, Nat.sub_zero, Nat.sub_self, Nat.le_refl, Nat.zero_le, ↓reduceIte, not_true_eq_false, not_false_eq_true, or_true, true_or, or_false, false_or, Option.some.injEq, ne_eq, implies_true, forall_const, forall_eq', forall_eq, and_self, or_self, Bool.or_true, Bool.or_false, Bool.true_or, Bool.false_or, Bool.and_true, Bool.and_false, Bool.true_and, Bool.false_and, Option.toList_some, Option.toList_none, Nat.succ_ne_zero, false_implies, true_implies, kx_l0, kd_sI, kd_sR, kd_sA, kd_sL, fI_sI_eq, fI_sI_ne, fR_sI, aI_sI, mL_sI, ln_sI, fR_sR_eq, fR_sR_ne, fI_sR, aI_sR, mL_sR, ln_sR, fI_sA, fR_sA, mL_sA, ln_sA, fI_sL, fR_sL, aI_sL, ln_sL, lo_X9_bind_0, lo_X9_bind_1, lo_X9_bind_2, lo_X9_bind_5, lo_X9_bind_6, lo_X9_bind_7, lo_X9_bind_8, lo_X9_bind_10, lo_X9_bind_13, lo_X9_bind_16, lo_X9_bind_27, lo_X9_bind_28, lo_X9_bind_30, lo_X9_bind_32, lo_X9_bind_33, lo_X9_bind_36, lo_X9_bind_37, lo_X9_bind_40, lo_X9_bind_43, lo_X9_bind_46, lo_X9_bind_49, lo_X9_bind_52, lo_X9_bind_53, lo_X9_bind_54, lo_X9_bind_57, lo_X9_bind_59, lo_X9_bind_60, lo_X9_bind_63, lo_X9_bind_65, f2_X9_buyerAt, f2_X9_isWithin, f2_X9_bindsOne, e1, k1, k2, k3, hz]
          exact ⟨fun z => absurd z (by decide), fun _ => hn'⟩
    exact loop n 0 M (by omega) rfl rfl rfl
  · intro h; exact h.elim
theorem f2_X9_bind_rc (E : kx_E) {av : List Value} {M : kx_M} (h : (f2_X9_bind E av M).1) : ∃ (a : Nat) (as : List Value), av = .ref a :: as ∧ kd M a = 11 := by
  unfold f2_X9_bind at h
  split at h
  · exact ⟨_, _, rfl, h.1.1⟩
  · exact h.elim
