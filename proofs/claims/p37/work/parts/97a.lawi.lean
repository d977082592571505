/-! THE LAW'S LOOP: what holds at its head -/
theorem zb_10 : ((10 : Int32) = 0) = False := by decide
theorem zb_3 : ((3 : Int32) = 0) = False := by decide
theorem zb_101 : ((101 : Int32) = 0) = False := by decide
theorem zb_50 : ((50 : Int32) = 0) = False := by decide
theorem zb_56 : ((56 : Int32) = 0) = False := by decide
theorem zb_99 : ((99 : Int32) = 0) = False := by decide
theorem zb_90 : ((90 : Int32) = 0) = False := by decide
theorem zb_16 : ((16 : Int32) = 0) = False := by decide
theorem zb_4 : ((4 : Int32) = 0) = False := by decide
theorem zb_6 : ((6 : Int32) = 0) = False := by decide
theorem zb_60 : ((60 : Int32) = 0) = False := by decide
theorem zb_111 : ((111 : Int32) = 0) = False := by decide
theorem zb_30 : ((30 : Int32) = 0) = False := by decide
theorem zb_20 : ((20 : Int32) = 0) = False := by decide
/-- a remainder -/
theorem rem_in {a d : Int32} (h0 : 0 ≤ iv a) (hd : 1 ≤ iv d) : 0 ≤ iv (a - a / d * d) ∧ iv (a - a / d * d) < iv d := by
  have h1 := iv_hi a
  have e1 : iv (a / d) = iv a / iv d := by rw [iv_div (by omega), Int.tdiv_eq_ediv_of_nonneg h0]
  have e2 := Int.mul_ediv_self_le (x := iv a) (k := iv d) (by omega)
  have e3 := Int.lt_mul_ediv_self_add (x := iv a) (k := iv d) (by omega)
  have e4 : 0 ≤ iv a / iv d := Int.ediv_nonneg h0 (by omega)
  have e5 : iv a / iv d * iv d = iv d * (iv a / iv d) := Int.mul_comm _ _
  have e6 : 0 ≤ iv d * (iv a / iv d) := Int.mul_nonneg (by omega) e4
  have e7 : iv (a / d * d) = iv d * (iv a / iv d) := by rw [iv_mul (by rw [e1, e5]; omega) (by rw [e1, e5]; omega), e1, e5]
  rw [iv_sub (by rw [e7]; omega) (by rw [e7]; omega), e7]
  omega
/-- 1 + below n -/
theorem one_below (v : Int32) {n : Int32} {c : Int} (hn : iv n = c) (h1 : 1 ≤ c) (h2 : c ≤ 1000) : 1 ≤ iv (1 + vBelow v n) ∧ iv (1 + vBelow v n) ≤ c := by
  obtain ⟨a, b⟩ := vBelow_in v (n := n) (by omega)
  rw [iv_add (by rw [iv_1]; omega) (by rw [iv_1]; omega), iv_1]
  omega
section LW
variable {m : Nat} {A : Nat → Nat} {M : kx_M}
/-- the law's own numbers and the hall -/
def LI (m : Nat) (A : Nat → Nat) (M : kx_M) (ct lp bd : Int32) (k : Nat) : Prop := ∃ (cut bound : Int) (K : Int32) (H : Int), hI m A cut bound K H 0 M ∧ (mL M (A 200)).length = 3 ∧ (mL M (A 201)).length = 6 ∧ (mL M (A 204)).length = 3 ∧ iv ct = cut ∧ iv bd = bound ∧ 6300 - lp = K ∧ 0 ≤ H ∧ H ≤ 4 * (k : Int)
/-- the locals of an arm -/
def pX (L : List (Nat × Value)) : Prop := L = [] ∨ (∃ a b : Int32, L = [(11, .int a), (12, .int b)]) ∨ (∃ a b : Int32, L = [(13, .int a), (14, .int b)]) ∨ (∃ a b c : Int32, L = [(15, .int a), (16, .int b), (17, .int c)]) ∨ ∃ a b : Int32, L = [(18, .int a), (19, .int b)]
/-- a lot asked for, or none -/
def pLo (A : Nat → Nat) (M : kx_M) (lo stt : Int32) : Prop := (lo = -1 ∧ stt = -1) ∨ ∃ (kt t : Nat), (mL M (A 202))[kt]? = some t ∧ lo = nI kt ∧ stt = fI M 129 t
theorem LI.of {m : Nat} {A : Nat → Nat} {M N : kx_M} {ct lp bd : Int32} {k : Nat} {cut bound : Int} {K : Int32} {H : Int} (h : hI m A cut bound K H 0 N) (l0 : (mL M (A 200)).length = 3) (l1 : (mL M (A 201)).length = 6) (l4 : (mL M (A 204)).length = 3) (hl : pKL A M N) (h1 : iv ct = cut) (h2 : iv bd = bound) (h3 : 6300 - lp = K) (h4 : 0 ≤ H) (h5 : H ≤ 4 * (k : Int)) : LI m A N ct lp bd (k + 1) :=
  ⟨cut, bound, K, H, h, by rw [hl 200 (by decide) (by decide) (by decide)]; exact l0, by rw [hl 201 (by decide) (by decide) (by decide)]; exact l1, by rw [hl 204 (by decide) (by decide) (by decide)]; exact l4, h1, h2, h3, h4, by omega⟩
set_option maxRecDepth 16000 in
theorem law_tail (E : kx_E) {G : kx_K} {Qr : kx_Q} (hG : kx_all G Qr (cd_L_lawT E)) {b k bc bs : Nat} {ct lp bd x y bu lo stt : Int32} {L : List (Nat × Value)} (h : LI m A M ct lp bd (k + 1)) (hX : pX L) (hn : G bc bs 200 [(0, .ref b), (1, .ref m), (2, .int ct), (3, .int lp), (4, .int bd), (5, .int (nI (k + 1)))] [] M) : G bc bs 1067 ([(0, .ref b), (1, .ref m), (2, .int ct), (3, .int lp), (4, .int bd), (5, .int (nI k)), (6, .int x), (7, .int y), (8, .int bu), (9, .int lo), (10, .int stt)] ++ L) [] M := by
  obtain ⟨cut, bound, K, H, hI1, l0, l1, l4, hc, hb, hl, h0, h4⟩ := h
  have hs := c2_L_isSound E hI1 l0 l4 hc hb hl
  rw [← nI_1] at hn
  rcases hX with rfl | ⟨a1, a2, rfl⟩ | ⟨a1, a2, rfl⟩ | ⟨a1, a2, a3, rfl⟩ | ⟨a1, a2, rfl⟩
  all_goals
    refine kx_run_ok hG (kx_in [1075, 200]) 20 _ _ _ _ _ _ ?_
    simp only [kx_run_s, kx_run_z, kx_in, kx_beq, decide_true, decide_false, cond_true, cond_false, t_push, t_il, t_ll, t_al, t_is, t_ls, t_as, t_inc, t_bin, t_dv, t_lbin, t_lcmp, t_itl, t_dup, t_pop, t_dupx, t_go, t_gk, cutL, t_if, t_ic, t_nul, t_acmp, t_gI, t_gR, t_pI, t_pZ, t_pR, t_new, t_nwa, t_ial, t_ias, t_aln, t_cst, t_sln, t_sld, t_iret, t_zret, t_lret, t_aret, t_vret, t_no, t_call, t_fun, t_sw, sw_to0, t_oin, t_mm, t_qal, t_qas, t_qln, t_nwq, t_gcl, t_acp, lk, up1, cl1, up2, cl2, kx_c2_i, kx_c2_r, kx_c2_n, kx_c2_l, kx_c2_v, lv_args, kx_sum, kx_isr_r, kx_isr_n, kx_isr_v, kx_ex_r, kx_ex_n, kx_ex_v, kx_ex2_r, kx_ex2_n, kx_ex2_v, va_rf_s, va_rf_n, Value.ref.injEq, reduceCtorEq, exists_eq_left', exists_eq_left, exists_eq', exists_eq, true_and, and_true, false_and, and_false, List.length_cons, List.length_nil, List.take_succ_cons, List.take_zero, List.drop_succ_cons, List.drop_zero, List.reverse_cons, List.reverse_nil, List.nil_append, List.cons_append, List.append_nil, List.getElem?_cons_zero, List.getElem?_cons_succ, List.map_cons, List.map_nil, List.sum_cons, List.sum_nil, kx_cat_i, kx_cat_r, kx_cat_n, kx_cat_l, kx_cat_v, Nat.reduceAdd, Nat.reduceSub, Nat.reduceEqDiff, Nat.reduceLeDiff, Nat.reduceMul, Nat.reduceLT, Nat.add_zero, Nat.zero_add, Nat.sub_zero, Nat.sub_self, Nat.le_refl, Nat.zero_le, ↓reduceIte, not_true_eq_false, not_false_eq_true, or_true, true_or, or_false, false_or, Option.some.injEq, ne_eq, implies_true, forall_const, forall_eq', forall_eq, and_self, or_self, Bool.or_true, Bool.or_false, Bool.true_or, Bool.false_or, Bool.and_true, Bool.and_false, Bool.true_and, Bool.false_and, Option.toList_some, Option.toList_none, Nat.succ_ne_zero, false_implies, true_implies, kx_l0, kd_sI, kd_sR, kd_sA, kd_sL, fI_sI_eq, fI_sI_ne, fR_sI, aI_sI, mL_sI, ln_sI, fR_sR_eq, fR_sR_ne, fI_sR, aI_sR, mL_sR, ln_sR, fI_sA, fR_sA, mL_sA, ln_sA, fI_sL, fR_sL, aI_sL, ln_sL, Int32.reduceLT, Int32.reduceLE, z_01, z_02, z_12, kx_10, z_20, z_21, lo_L_lawT_1067, lo_L_lawT_1068, lo_L_lawT_1069, lo_L_lawT_1071, lo_L_lawT_1072, lo_L_lawT_1075, lo_L_lawT_1078, lo_L_lawT_1079, lo_L_lawT_1080, lo_L_lawT_1083]
    refine ⟨0, 0, Nat.zero_le _, Nat.zero_le _, hs.mono ?_⟩
    rintro v N ⟨rfl, rfl⟩
    refine kx_run_ok hG (kx_in [1075, 200]) 20 _ _ _ _ _ _ ?_
    simp only [kx_run_s, kx_run_z, kx_in, kx_beq, decide_true, decide_false, cond_true, cond_false, t_push, t_il, t_ll, t_al, t_is, t_ls, t_as, t_inc, t_bin, t_dv, t_lbin, t_lcmp, t_itl, t_dup, t_pop, t_dupx, t_go, t_gk, cutL, t_if, t_ic, t_nul, t_acmp, t_gI, t_gR, t_pI, t_pZ, t_pR, t_new, t_nwa, t_ial, t_ias, t_aln, t_cst, t_sln, t_sld, t_iret, t_zret, t_lret, t_aret, t_vret, t_no, t_call, t_fun, t_sw, sw_to0, t_oin, t_mm, t_qal, t_qas, t_qln, t_nwq, t_gcl, t_acp, lk, up1, cl1, up2, cl2, kx_c2_i, kx_c2_r, kx_c2_n, kx_c2_l, kx_c2_v, lv_args, kx_sum, kx_isr_r, kx_isr_n, kx_isr_v, kx_ex_r, kx_ex_n, kx_ex_v, kx_ex2_r, kx_ex2_n, kx_ex2_v, va_rf_s, va_rf_n, Value.ref.injEq, reduceCtorEq, exists_eq_left', exists_eq_left, exists_eq', exists_eq, true_and, and_true, false_and, and_false, List.length_cons, List.length_nil, List.take_succ_cons, List.take_zero, List.drop_succ_cons, List.drop_zero, List.reverse_cons, List.reverse_nil, List.nil_append, List.cons_append, List.append_nil, List.getElem?_cons_zero, List.getElem?_cons_succ, List.map_cons, List.map_nil, List.sum_cons, List.sum_nil, kx_cat_i, kx_cat_r, kx_cat_n, kx_cat_l, kx_cat_v, Nat.reduceAdd, Nat.reduceSub, Nat.reduceEqDiff, Nat.reduceLeDiff, Nat.reduceMul, Nat.reduceLT, Nat.add_zero, Nat.zero_add, Nat.sub_zero, Nat.sub_self, Nat.le_refl, Nat.zero_le, ↓reduceIte, not_true_eq_false, not_false_eq_true, or_true, true_or, or_false, false_or, Option.some.injEq, ne_eq, implies_true, forall_const, forall_eq', forall_eq, and_self, or_self, Bool.or_true, Bool.or_false, Bool.true_or, Bool.false_or, Bool.and_true, Bool.and_false, Bool.true_and, Bool.false_and, Option.toList_some, Option.toList_none, Nat.succ_ne_zero, false_implies, true_implies, kx_l0, kd_sI, kd_sR, kd_sA, kd_sL, fI_sI_eq, fI_sI_ne, fR_sI, aI_sI, mL_sI, ln_sI, fR_sR_eq, fR_sR_ne, fI_sR, aI_sR, mL_sR, ln_sR, fI_sA, fR_sA, mL_sA, ln_sA, fI_sL, fR_sL, aI_sL, ln_sL, Int32.reduceLT, Int32.reduceLE, z_01, z_02, z_12, kx_10, z_20, z_21, lo_L_lawT_1067, lo_L_lawT_1068, lo_L_lawT_1069, lo_L_lawT_1071, lo_L_lawT_1072, lo_L_lawT_1075, lo_L_lawT_1078, lo_L_lawT_1079, lo_L_lawT_1080, lo_L_lawT_1083]
    exact hn
end LW
