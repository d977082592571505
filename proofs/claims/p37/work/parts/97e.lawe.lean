section LA
variable {m : Nat} {A : Nat → Nat} {M : kx_M}
theorem mL_eBind (h : ∃ (cut bound : Int) (K : Int32) (H : Int), hI m A cut bound K H 0 M) {b : Nat} (hb : b ∈ mL M (A 204)) (n : Nat) : mL (eBind M b n) = mL M := by
  obtain ⟨cut, bound, K, H, h⟩ := h
  obtain ⟨d1, ⟨q, d2, d3, d4⟩, d5⟩ := h.2.2.1.2.2.2 b hb
  have hrs : rf M 22 b = q := by unfold rf; rw [d2]; rfl
  obtain ⟨k, u, j1, j2, j3, j4, j5, j6, j7, j8⟩ := hI_bindN n M 0 bound h hb d2
  unfold eBind
  rw [mL_sI, hrs, j8]
theorem mL_eClear (M : kx_M) (m t g : Nat) (v : Int32) : mL (eClear M m t g v) = mL M := by
  unfold eClear
  dsimp only
  split <;> simp only [mL_sI]
theorem eClear_0 (M : kx_M) (m t g : Nat) : fI (eClear M m t g 1) 125 t = 0 ∧ fI (eClear M m t g 1) 127 t = 0 := by
  unfold eClear
  dsimp only
  rw [if_neg (by decide : ¬ (1 : Int32) = 0)]
  exact ⟨by rw [fI_sI_ne _ _ _ _ _ _ (by decide), fI_sI_ne _ _ _ _ _ _ (by decide), fI_sI_ne _ _ _ _ _ _ (by decide), fI_sI_eq], by rw [fI_sI_ne _ _ _ _ _ _ (by decide), fI_sI_ne _ _ _ _ _ _ (by decide), fI_sI_eq]⟩
theorem mL_eBack (M : kx_M) (m b : Nat) (x : Int32) : mL (eBack M m b x) = mL M := by unfold eBack; simp only [mL_sI]
theorem eBack_212 (M : kx_M) (m b : Nat) (x : Int32) : fI (eBack M m b x) 212 m = fI M 212 m + x := by
  unfold eBack
  rw [fI_sI_ne _ _ _ _ _ _ (by decide), fI_sI_ne _ _ _ _ _ _ (by decide), fI_sI_eq]
theorem z_00 : ((0 : Int32) + 0 = 0) = True := by decide
theorem iv_9999 : iv 9999 = 9999 := by decide
set_option maxRecDepth 16000 in
theorem law_771 (E : kx_E) {G : kx_K} {Qr : kx_Q} (hG : kx_all G Qr (cd_L_lawI E)) {b k bc bs kb : Nat} {ct lp bd x y lo stt : Int32} (h : LI m A M ct lp bd k) (hk : k < 44) (hkb : kb < 3) (hlo : pLo A M lo stt) (hbc : 100 ≤ bc) (hbs : 60000 ≤ bs) (tl : pTl m A G b k bc bs kb x y lo stt) : G bc bs 771 [(0, .ref b), (1, .ref m), (2, .int ct), (3, .int lp), (4, .int bd), (5, .int (nI k)), (6, .int x), (7, .int y), (8, .int (nI kb)), (9, .int lo), (10, .int stt)] [] M := by
  have hup := h.up
  obtain ⟨cut, bound, K, H, hI1, l0, l1, l4, hc, hb, hl, h0, h4⟩ := h
  have s := hI1.1
  have km : kd M m = 11 := s.1
  obtain ⟨u, hbu⟩ : ∃ u, (mL M (A 204))[kb]? = some u := ⟨_, List.getElem?_eq_getElem (by omega)⟩
  have hu := List.mem_of_getElem? hbu
  obtain ⟨b1, b2, -⟩ := at_buy hI1 hbu
  have b1' := eq_true b1
  have b3 := eq_true (byc_buy hI1 hu)
  have ub := hI1.2.2.1.2.2.2 u hu
  have hh := eq_true (hI_hall hI1)
  have v0 := vHal_0 m M
  have go : ∀ v : Int32, -1 ≤ iv v → iv v ≤ 9999 → G bc bs 804 [(0, .ref b), (1, .ref m), (2, .int ct), (3, .int lp), (4, .int bd), (5, .int (nI k)), (6, .int x), (7, .int y), (8, .int (nI kb)), (9, .int lo), (10, .int stt)] [.int v, .int (nI kb), .ref m] M := by
    intro v hv1 hv2
    have c1 : (-1 ≤ v) = True := eq_true (iv_le.mpr (by rw [iv_m1]; exact hv1))
    have c2 : (v ≤ 9999) = True := eq_true (iv_le.mpr (by rw [iv_9999]; exact hv2))
    have c3 : (fI M 25 u < -1) = False := eq_false (fun z => by
      have := iv_lt.mp z
      rw [iv_m1] at this
      have := ub.2.2.2.2.1.1
      omega)
    have c4 : (fI M 24 u ≤ 9) = True := eq_true (iv_le.mpr (by rw [iv_9']; exact ub.2.2.2.1.2))
    have w := vBelow_in y (n := 10) (by decide)
    rw [iv_10] at w
    have c5 : (0 ≤ vBelow y 10) = True := eq_true (iv_le.mpr (by rw [iv_0]; exact w.1))
    have c6 : (vBelow y 10 ≤ 9) = True := eq_true (iv_le.mpr (by rw [iv_9']; omega))
    have hN := hI_leave hI1 (b := u) ⟨hv1, hv2⟩
    have hN2 := hI_even hN (b := u) (x := vBelow y 10) ⟨w.1, by omega⟩
    obtain ⟨d1, d2, -⟩ := at_buy hN (k := kb) (x := u) (by rw [mL_sI]; exact hbu)
    have d1' := eq_true d1
    have kN : kd (sI M 25 u v) m = 11 := hN.1.1
    have e24 : fI (sI M 25 u v) 24 u = fI M 24 u := fI_sI_ne _ _ _ _ _ _ (by decide)
    refine kx_run_ok hG (kx_in [1067]) 40 _ _ _ _ _ _ ?_
    simp only [kx_run_s, kx_run_z, kx_in, kx_beq, decide_true, decide_false, cond_true, cond_false, t_push, t_il, t_ll, t_al, t_is, t_ls, t_as, t_inc, t_bin, t_dv, t_lbin, t_lcmp, t_itl, t_dup, t_pop, t_dupx, t_go, t_gk, cutL, t_if, t_ic, t_nul, t_acmp, t_gI, t_gR, t_pI, t_pZ, t_pR, t_new, t_nwa, t_ial, t_ias, t_aln, t_cst, t_sln, t_sld, t_iret, t_zret, t_lret, t_aret, t_vret, t_no, t_call, t_fun, t_sw, sw_to0, t_oin, t_mm, t_qal, t_qas, t_qln, t_nwq, t_gcl, t_acp, lk, up1, cl1, up2, cl2, kx_c2_i, kx_c2_r, kx_c2_n, kx_c2_l, kx_c2_v, lv_args, kx_sum, kx_isr_r, kx_isr_n, kx_isr_v, kx_ex_r, kx_ex_n, kx_ex_v, kx_ex2_r, kx_ex2_n, kx_ex2_v, va_rf_s, va_rf_n, Value.ref.injEq, reduceCtorEq, exists_eq_left', exists_eq_left, exists_eq', exists_eq, true_and, and_true, false_and, and_false, List.length_cons, List.length_nil, List.take_succ_cons, List.take_zero, List.drop_succ_cons, List.drop_zero, List.reverse_cons, List.reverse_nil, List.nil_append, List.cons_append, List.append_nil, List.getElem?_cons_zero, List.getElem?_cons_succ, List.map_cons, List.map_nil, List.sum_cons, List.sum_nil, kx_cat_i, kx_cat_r, kx_cat_n, kx_cat_l, kx_cat_v, Nat.reduceAdd, Nat.reduceSub, Nat.reduceEqDiff, Nat.reduceLeDiff, Nat.reduceMul, Nat.reduceLT, Nat.add_zero, Nat.zero_add, Nat.sub_zero, Nat.sub_self, Nat.le_refl, Nat.zero_le, ↓reduceIte, not_true_eq_false, not_false_eq_true, or_true, true_or, or_false, false_or, Option.some.injEq, ne_eq, implies_true, forall_const, forall_eq', forall_eq, and_self, or_self, Bool.or_true, Bool.or_false, Bool.true_or, Bool.false_or, Bool.and_true, Bool.and_false, Bool.true_and, Bool.false_and, Option.toList_some, Option.toList_none, Nat.succ_ne_zero, false_implies, true_implies, kx_l0, kd_sI, kd_sR, kd_sA, kd_sL, fI_sI_eq, fI_sI_ne, fR_sI, aI_sI, mL_sI, ln_sI, fR_sR_eq, fR_sR_ne, fI_sR, aI_sR, mL_sR, ln_sR, fI_sA, fR_sA, mL_sA, ln_sA, fI_sL, fR_sL, aI_sL, ln_sL, Int32.reduceLT, Int32.reduceLE, z_01, z_02, z_12, kx_10, z_20, z_21, lo_L_lawI_771, lo_L_lawI_772, lo_L_lawI_774, lo_L_lawI_776, lo_L_lawI_777, lo_L_lawI_778, lo_L_lawI_779, lo_L_lawI_782, lo_L_lawI_785, lo_L_lawI_786, lo_L_lawI_789, lo_L_lawI_790, lo_L_lawI_791, lo_L_lawI_794, lo_L_lawI_796, lo_L_lawI_797, lo_L_lawI_798, lo_L_lawI_800, lo_L_lawI_803, lo_L_lawI_804, lo_L_lawI_807, lo_L_lawI_808, lo_L_lawI_811, lo_L_lawI_812, lo_L_lawI_814, lo_L_lawI_816, lo_L_lawI_818, lo_L_lawI_821, lo_L_lawI_824, lo_L_lawI_826, lo_L_lawI_829, lo_L_lawI_830, lo_L_lawI_831, lo_L_lawI_832, lo_L_lawI_834, lo_L_lawI_835, lo_L_lawI_838, lo_L_lawI_839, lo_L_lawI_841, lo_L_lawI_842, lo_L_lawI_845, lo_L_lawI_846, lo_L_lawI_847, lo_L_lawI_849, lo_L_lawI_851, lo_L_lawI_854, lo_L_lawI_855, lo_L_lawI_857, lo_L_lawI_858, lo_L_lawI_860, lo_L_lawI_861, lo_L_lawI_863, lo_L_lawI_864, lo_L_lawI_865, lo_L_lawI_867, lo_L_lawI_870, lo_L_lawI_871, lo_L_lawI_874, lo_L_lawI_876, lo_L_lawI_878, lo_L_lawI_879, lo_L_lawI_881, lo_L_lawI_882, lo_L_lawI_885, lo_L_lawI_886, lo_L_lawI_887, lo_L_lawI_889, lo_L_lawI_890, lo_L_lawI_893, lo_L_lawI_894, lo_L_lawI_895, lo_L_lawI_897, lo_L_lawI_899, lo_L_lawI_902, lo_L_lawI_903, lo_L_lawI_905, lo_L_lawI_907, lo_L_lawI_909, lo_L_lawI_911, lo_L_lawI_912, lo_L_lawI_915, lo_L_lawI_917, lo_L_lawI_919, lo_L_lawI_921, lo_L_lawI_922, lo_L_lawI_925, lo_L_lawI_926, lo_L_lawI_927, lo_L_lawI_929, lo_L_lawI_931, lo_L_lawI_932, lo_L_lawI_934, lo_L_lawI_935, lo_L_lawI_937, lo_L_lawI_939, lo_L_lawI_942, lo_L_lawI_945, lo_L_lawI_946, lo_L_lawI_948, lo_L_lawI_949, lo_L_lawI_952, lo_L_lawI_953, lo_L_lawI_955, lo_L_lawI_958, lo_L_lawI_961, lo_L_lawI_962, f2_L_below, f2_X9_many, f2_X9_leave, f2_X9_even, f2_X9_ofBuyer, f2_X9_bind, f2_X9_back, km, b1', b2, c1, c2, c3, zb_10, c5, c6, d1', d2, e24, c4, kN]
    exact tl bc bs ct lp bd _ [] (by omega) (by omega) (Or.inl rfl) (LI.of hN2 l0 l1 l4 (pKL.of (by rw [mL_sI, mL_sI])) hc hb hl h0 h4)
  by_cases hz : vBelow (x >>> ((4 : Int32) &&& 31)) 3 = 0
  · have e1 := eq_true hz
    have hn := go (-1) (by decide) (by decide)
    refine kx_run_ok hG (kx_in [804]) 40 _ _ _ _ _ _ ?_
    simp only [kx_run_s, kx_run_z, kx_in, kx_beq, decide_true, decide_false, cond_true, cond_false, t_push, t_il, t_ll, t_al, t_is, t_ls, t_as, t_inc, t_bin, t_dv, t_lbin, t_lcmp, t_itl, t_dup, t_pop, t_dupx, t_go, t_gk, cutL, t_if, t_ic, t_nul, t_acmp, t_gI, t_gR, t_pI, t_pZ, t_pR, t_new, t_nwa, t_ial, t_ias, t_aln, t_cst, t_sln, t_sld, t_iret, t_zret, t_lret, t_aret, t_vret, t_no, t_call, t_fun, t_sw, sw_to0, t_oin, t_mm, t_qal, t_qas, t_qln, t_nwq, t_gcl, t_acp, lk, up1, cl1, up2, cl2, kx_c2_i, kx_c2_r, kx_c2_n, kx_c2_l, kx_c2_v, lv_args, kx_sum, kx_isr_r, kx_isr_n, kx_isr_v, kx_ex_r, kx_ex_n, kx_ex_v, kx_ex2_r, kx_ex2_n, kx_ex2_v, va_rf_s, va_rf_n, Value.ref.injEq, reduceCtorEq, exists_eq_left', exists_eq_left, exists_eq', exists_eq, true_and, and_true, false_and, and_false, List.length_cons, List.length_nil, List.take_succ_cons, List.take_zero, List.drop_succ_cons, List.drop_zero, List.reverse_cons, List.reverse_nil, List.nil_append, List.cons_append, List.append_nil, List.getElem?_cons_zero, List.getElem?_cons_succ, List.map_cons, List.map_nil, List.sum_cons, List.sum_nil, kx_cat_i, kx_cat_r, kx_cat_n, kx_cat_l, kx_cat_v, Nat.reduceAdd, Nat.reduceSub, Nat.reduceEqDiff, Nat.reduceLeDiff, Nat.reduceMul, Nat.reduceLT, Nat.add_zero, Nat.zero_add, Nat.sub_zero, Nat.sub_self, Nat.le_refl, Nat.zero_le, ↓reduceIte, not_true_eq_false, not_false_eq_true, or_true, true_or, or_false, false_or, Option.some.injEq, ne_eq, implies_true, forall_const, forall_eq', forall_eq, and_self, or_self, Bool.or_true, Bool.or_false, Bool.true_or, Bool.false_or, Bool.and_true, Bool.and_false, Bool.true_and, Bool.false_and, Option.toList_some, Option.toList_none, Nat.succ_ne_zero, false_implies, true_implies, kx_l0, kd_sI, kd_sR, kd_sA, kd_sL, fI_sI_eq, fI_sI_ne, fR_sI, aI_sI, mL_sI, ln_sI, fR_sR_eq, fR_sR_ne, fI_sR, aI_sR, mL_sR, ln_sR, fI_sA, fR_sA, mL_sA, ln_sA, fI_sL, fR_sL, aI_sL, ln_sL, Int32.reduceLT, Int32.reduceLE, z_01, z_02, z_12, kx_10, z_20, z_21, lo_L_lawI_771, lo_L_lawI_772, lo_L_lawI_774, lo_L_lawI_776, lo_L_lawI_777, lo_L_lawI_778, lo_L_lawI_779, lo_L_lawI_782, lo_L_lawI_785, lo_L_lawI_786, lo_L_lawI_789, lo_L_lawI_790, lo_L_lawI_791, lo_L_lawI_794, lo_L_lawI_796, lo_L_lawI_797, lo_L_lawI_798, lo_L_lawI_800, lo_L_lawI_803, lo_L_lawI_804, lo_L_lawI_807, lo_L_lawI_808, lo_L_lawI_811, lo_L_lawI_812, lo_L_lawI_814, lo_L_lawI_816, lo_L_lawI_818, lo_L_lawI_821, lo_L_lawI_824, lo_L_lawI_826, lo_L_lawI_829, lo_L_lawI_830, lo_L_lawI_831, lo_L_lawI_832, lo_L_lawI_834, lo_L_lawI_835, lo_L_lawI_838, lo_L_lawI_839, lo_L_lawI_841, lo_L_lawI_842, lo_L_lawI_845, lo_L_lawI_846, lo_L_lawI_847, lo_L_lawI_849, lo_L_lawI_851, lo_L_lawI_854, lo_L_lawI_855, lo_L_lawI_857, lo_L_lawI_858, lo_L_lawI_860, lo_L_lawI_861, lo_L_lawI_863, lo_L_lawI_864, lo_L_lawI_865, lo_L_lawI_867, lo_L_lawI_870, lo_L_lawI_871, lo_L_lawI_874, lo_L_lawI_876, lo_L_lawI_878, lo_L_lawI_879, lo_L_lawI_881, lo_L_lawI_882, lo_L_lawI_885, lo_L_lawI_886, lo_L_lawI_887, lo_L_lawI_889, lo_L_lawI_890, lo_L_lawI_893, lo_L_lawI_894, lo_L_lawI_895, lo_L_lawI_897, lo_L_lawI_899, lo_L_lawI_902, lo_L_lawI_903, lo_L_lawI_905, lo_L_lawI_907, lo_L_lawI_909, lo_L_lawI_911, lo_L_lawI_912, lo_L_lawI_915, lo_L_lawI_917, lo_L_lawI_919, lo_L_lawI_921, lo_L_lawI_922, lo_L_lawI_925, lo_L_lawI_926, lo_L_lawI_927, lo_L_lawI_929, lo_L_lawI_931, lo_L_lawI_932, lo_L_lawI_934, lo_L_lawI_935, lo_L_lawI_937, lo_L_lawI_939, lo_L_lawI_942, lo_L_lawI_945, lo_L_lawI_946, lo_L_lawI_948, lo_L_lawI_949, lo_L_lawI_952, lo_L_lawI_953, lo_L_lawI_955, lo_L_lawI_958, lo_L_lawI_961, lo_L_lawI_962, f2_L_below, f2_X9_many, f2_X9_leave, f2_X9_even, f2_X9_ofBuyer, f2_X9_bind, f2_X9_back, zb_3, e1]
    exact hn
  · have e1 := eq_false hz
    have w := vBelow_in (y >>> ((3 : Int32) &&& 31)) (n := 6) (by decide)
    rw [iv_6'] at w
    have n210 := hI1.2.2.2.2.2.2.2.2.2.2.2.2.2.2.1
    have hn := go (fI M 210 m + vBelow (y >>> ((3 : Int32) &&& 31)) 6) (by rw [iv_add (by omega) (by omega)]; omega) (by rw [iv_add (by omega) (by omega)]; omega)
    refine kx_run_ok hG (kx_in [804]) 40 _ _ _ _ _ _ ?_
    simp only [kx_run_s, kx_run_z, kx_in, kx_beq, decide_true, decide_false, cond_true, cond_false, t_push, t_il, t_ll, t_al, t_is, t_ls, t_as, t_inc, t_bin, t_dv, t_lbin, t_lcmp, t_itl, t_dup, t_pop, t_dupx, t_go, t_gk, cutL, t_if, t_ic, t_nul, t_acmp, t_gI, t_gR, t_pI, t_pZ, t_pR, t_new, t_nwa, t_ial, t_ias, t_aln, t_cst, t_sln, t_sld, t_iret, t_zret, t_lret, t_aret, t_vret, t_no, t_call, t_fun, t_sw, sw_to0, t_oin, t_mm, t_qal, t_qas, t_qln, t_nwq, t_gcl, t_acp, lk, up1, cl1, up2, cl2, kx_c2_i, kx_c2_r, kx_c2_n, kx_c2_l, kx_c2_v, lv_args, kx_sum, kx_isr_r, kx_isr_n, kx_isr_v, kx_ex_r, kx_ex_n, kx_ex_v, kx_ex2_r, kx_ex2_n, kx_ex2_v, va_rf_s, va_rf_n, Value.ref.injEq, reduceCtorEq, exists_eq_left', exists_eq_left, exists_eq', exists_eq, true_and, and_true, false_and, and_false, List.length_cons, List.length_nil, List.take_succ_cons, List.take_zero, List.drop_succ_cons, List.drop_zero, List.reverse_cons, List.reverse_nil, List.nil_append, List.cons_append, List.append_nil, List.getElem?_cons_zero, List.getElem?_cons_succ, List.map_cons, List.map_nil, List.sum_cons, List.sum_nil, kx_cat_i, kx_cat_r, kx_cat_n, kx_cat_l, kx_cat_v, Nat.reduceAdd, Nat.reduceSub, Nat.reduceEqDiff, Nat.reduceLeDiff, Nat.reduceMul, Nat.reduceLT, Nat.add_zero, Nat.zero_add, Nat.sub_zero, Nat.sub_self, Nat.le_refl, Nat.zero_le, ↓reduceIte, not_true_eq_false, not_false_eq_true, or_true, true_or, or_false, false_or, Option.some.injEq, ne_eq, implies_true, forall_const, forall_eq', forall_eq, and_self, or_self, Bool.or_true, Bool.or_false, Bool.true_or, Bool.false_or, Bool.and_true, Bool.and_false, Bool.true_and, Bool.false_and, Option.toList_some, Option.toList_none, Nat.succ_ne_zero, false_implies, true_implies, kx_l0, kd_sI, kd_sR, kd_sA, kd_sL, fI_sI_eq, fI_sI_ne, fR_sI, aI_sI, mL_sI, ln_sI, fR_sR_eq, fR_sR_ne, fI_sR, aI_sR, mL_sR, ln_sR, fI_sA, fR_sA, mL_sA, ln_sA, fI_sL, fR_sL, aI_sL, ln_sL, Int32.reduceLT, Int32.reduceLE, z_01, z_02, z_12, kx_10, z_20, z_21, lo_L_lawI_771, lo_L_lawI_772, lo_L_lawI_774, lo_L_lawI_776, lo_L_lawI_777, lo_L_lawI_778, lo_L_lawI_779, lo_L_lawI_782, lo_L_lawI_785, lo_L_lawI_786, lo_L_lawI_789, lo_L_lawI_790, lo_L_lawI_791, lo_L_lawI_794, lo_L_lawI_796, lo_L_lawI_797, lo_L_lawI_798, lo_L_lawI_800, lo_L_lawI_803, lo_L_lawI_804, lo_L_lawI_807, lo_L_lawI_808, lo_L_lawI_811, lo_L_lawI_812, lo_L_lawI_814, lo_L_lawI_816, lo_L_lawI_818, lo_L_lawI_821, lo_L_lawI_824, lo_L_lawI_826, lo_L_lawI_829, lo_L_lawI_830, lo_L_lawI_831, lo_L_lawI_832, lo_L_lawI_834, lo_L_lawI_835, lo_L_lawI_838, lo_L_lawI_839, lo_L_lawI_841, lo_L_lawI_842, lo_L_lawI_845, lo_L_lawI_846, lo_L_lawI_847, lo_L_lawI_849, lo_L_lawI_851, lo_L_lawI_854, lo_L_lawI_855, lo_L_lawI_857, lo_L_lawI_858, lo_L_lawI_860, lo_L_lawI_861, lo_L_lawI_863, lo_L_lawI_864, lo_L_lawI_865, lo_L_lawI_867, lo_L_lawI_870, lo_L_lawI_871, lo_L_lawI_874, lo_L_lawI_876, lo_L_lawI_878, lo_L_lawI_879, lo_L_lawI_881, lo_L_lawI_882, lo_L_lawI_885, lo_L_lawI_886, lo_L_lawI_887, lo_L_lawI_889, lo_L_lawI_890, lo_L_lawI_893, lo_L_lawI_894, lo_L_lawI_895, lo_L_lawI_897, lo_L_lawI_899, lo_L_lawI_902, lo_L_lawI_903, lo_L_lawI_905, lo_L_lawI_907, lo_L_lawI_909, lo_L_lawI_911, lo_L_lawI_912, lo_L_lawI_915, lo_L_lawI_917, lo_L_lawI_919, lo_L_lawI_921, lo_L_lawI_922, lo_L_lawI_925, lo_L_lawI_926, lo_L_lawI_927, lo_L_lawI_929, lo_L_lawI_931, lo_L_lawI_932, lo_L_lawI_934, lo_L_lawI_935, lo_L_lawI_937, lo_L_lawI_939, lo_L_lawI_942, lo_L_lawI_945, lo_L_lawI_946, lo_L_lawI_948, lo_L_lawI_949, lo_L_lawI_952, lo_L_lawI_953, lo_L_lawI_955, lo_L_lawI_958, lo_L_lawI_961, lo_L_lawI_962, f2_L_below, f2_X9_many, f2_X9_leave, f2_X9_even, f2_X9_ofBuyer, f2_X9_bind, f2_X9_back, km, hh, v0, zb_3, zb_6, e1]
    exact hn
set_option maxRecDepth 16000 in
theorem law_831 (E : kx_E) {G : kx_K} {Qr : kx_Q} (hG : kx_all G Qr (cd_L_lawI E)) {b k bc bs kb : Nat} {ct lp bd x y lo stt : Int32} (h : LI m A M ct lp bd k) (hk : k < 44) (hkb : kb < 3) (hlo : pLo A M lo stt) (hbc : 100 ≤ bc) (hbs : 60000 ≤ bs) (tl : pTl m A G b k bc bs kb x y lo stt) : G bc bs 831 [(0, .ref b), (1, .ref m), (2, .int ct), (3, .int lp), (4, .int bd), (5, .int (nI k)), (6, .int x), (7, .int y), (8, .int (nI kb)), (9, .int lo), (10, .int stt)] [] M := by
  have hup := h.up
  obtain ⟨cut, bound, K, H, hI1, l0, l1, l4, hc, hb, hl, h0, h4⟩ := h
  have s := hI1.1
  have km : kd M m = 11 := s.1
  obtain ⟨u, hbu⟩ : ∃ u, (mL M (A 204))[kb]? = some u := ⟨_, List.getElem?_eq_getElem (by omega)⟩
  have hu := List.mem_of_getElem? hbu
  obtain ⟨b1, b2, -⟩ := at_buy hI1 hbu
  have b1' := eq_true b1
  have b3 := eq_true (byc_buy hI1 hu)
  have ub := hI1.2.2.1.2.2.2 u hu
  obtain ⟨s1, s2⟩ := one_below (y >>> ((2 : Int32) &&& 31)) (n := 6) iv_6' (by decide) (by decide)
  generalize hnb : 1 + vBelow (y >>> ((2 : Int32) &&& 31)) 6 = nb at s1 s2
  have c1 : (1 ≤ nb) = True := eq_true (iv_le.mpr (by rw [iv_1]; exact s1))
  have c2 : (nb ≤ 99) = True := eq_true (iv_le.mpr (by rw [iv_99]; omega))
  obtain ⟨kk, used, k1, k2, k3, k4, hN, k6⟩ := hI_bind hI1 hu nb.toNatClampNeg
  have hmL := mL_eBind ⟨cut, bound, K, H, hI1⟩ hu nb.toNatClampNeg
  have hnb6 : nb.toNatClampNeg ≤ 6 := by
    have e1 : (nb.toNatClampNeg : Int) = iv nb := by
      unfold iv at s1 ⊢
      have : nb.toNatClampNeg = nb.toInt.toNat := rfl
      rw [this]
      omega
    omega
  generalize hNe : eBind M u nb.toNatClampNeg = N at hN k6 hmL
  have kN : kd N m = 11 := hN.1.1
  have hbuN : (mL N (A 204))[kb]? = some u := by rw [hmL]; exact hbu
  obtain ⟨d1, d2, -⟩ := at_buy hN hbuN
  have d1' := eq_true d1
  have d3 := eq_true (byc_buy hN (List.mem_of_getElem? hbuN))
  have i1 := iv_sB hI1 hu
  have i2 := iv_sB hN (List.mem_of_getElem? hbuN)
  have hbn := stem_bnd hI1
  have hst := hI1.2.2.2.2.2.2.2.2.2.2.1
  unfold nStem at hst
  have hle : stk M u ≤ 960 := by
    have := sz_ge (f := stk M) (mL M (A 204)) (fun x hx => (iv_sB hI1 hx).2) hu
    omega
  obtain ⟨us, hus⟩ : ∃ z, aI M (rf M 22 u) 0 + aI M (rf M 22 u) 1 + aI M (rf M 22 u) 2 - aI N (rf N 22 u) 0 - aI N (rf N 22 u) 1 - aI N (rf N 22 u) 2 = z := ⟨_, rfl⟩
  have hus2 : us = sB M u - sB N u := by
    rw [← hus]
    exact i_six _ _ _ _ _ _
  have ivu : iv us = used := by
    rw [hus2, iv_sub (by omega) (by omega)]
    omega
  have ikk : iv (nI kk) = (kk : Int) := iv_nI (by omega)
  have c3 : (us < 6 * nI kk) = False := eq_false (fun z => by
    have := iv_lt.mp z
    rw [iv_mul (by rw [iv_6', ikk]; omega) (by rw [iv_6', ikk]; omega), iv_6', ikk] at this
    omega)
  have c4 : (us ≤ 9 * nI kk) = True := eq_true (iv_le.mpr (by
    rw [iv_mul (by rw [iv_9', ikk]; omega) (by rw [iv_9', ikk]; omega), iv_9', ikk]
    omega))
  have hbn2 := stem_bnd hN
  have hst2 := hN.2.2.2.2.2.2.2.2.2.2.1
  unfold nStem at hst2
  have hbd : iv (bd + us) = bound + used := by
    rw [iv_add (by omega) (by omega), hb, ivu]
  have hLI : ∀ P : kx_M, hI m A cut (bound + used) K H 0 P → mL P = mL M → LI m A P ct lp (bd + us) (k + 1) := fun P hP hL => LI.of hP l0 l1 l4 (pKL.of hL) hc hbd hl h0 h4
  by_cases h26 : fI N 26 u ≤ 0
  · have c5 := eq_true h26
    refine kx_run_ok hG (kx_in [1067]) 90 _ _ _ _ _ _ ?_
    simp only [kx_run_s, kx_run_z, kx_in, kx_beq, decide_true, decide_false, cond_true, cond_false, t_push, t_il, t_ll, t_al, t_is, t_ls, t_as, t_inc, t_bin, t_dv, t_lbin, t_lcmp, t_itl, t_dup, t_pop, t_dupx, t_go, t_gk, cutL, t_if, t_ic, t_nul, t_acmp, t_gI, t_gR, t_pI, t_pZ, t_pR, t_new, t_nwa, t_ial, t_ias, t_aln, t_cst, t_sln, t_sld, t_iret, t_zret, t_lret, t_aret, t_vret, t_no, t_call, t_fun, t_sw, sw_to0, t_oin, t_mm, t_qal, t_qas, t_qln, t_nwq, t_gcl, t_acp, lk, up1, cl1, up2, cl2, kx_c2_i, kx_c2_r, kx_c2_n, kx_c2_l, kx_c2_v, lv_args, kx_sum, kx_isr_r, kx_isr_n, kx_isr_v, kx_ex_r, kx_ex_n, kx_ex_v, kx_ex2_r, kx_ex2_n, kx_ex2_v, va_rf_s, va_rf_n, Value.ref.injEq, reduceCtorEq, exists_eq_left', exists_eq_left, exists_eq', exists_eq, true_and, and_true, false_and, and_false, List.length_cons, List.length_nil, List.take_succ_cons, List.take_zero, List.drop_succ_cons, List.drop_zero, List.reverse_cons, List.reverse_nil, List.nil_append, List.cons_append, List.append_nil, List.getElem?_cons_zero, List.getElem?_cons_succ, List.map_cons, List.map_nil, List.sum_cons, List.sum_nil, kx_cat_i, kx_cat_r, kx_cat_n, kx_cat_l, kx_cat_v, Nat.reduceAdd, Nat.reduceSub, Nat.reduceEqDiff, Nat.reduceLeDiff, Nat.reduceMul, Nat.reduceLT, Nat.add_zero, Nat.zero_add, Nat.sub_zero, Nat.sub_self, Nat.le_refl, Nat.zero_le, ↓reduceIte, not_true_eq_false, not_false_eq_true, or_true, true_or, or_false, false_or, Option.some.injEq, ne_eq, implies_true, forall_const, forall_eq', forall_eq, and_self, or_self, Bool.or_true, Bool.or_false, Bool.true_or, Bool.false_or, Bool.and_true, Bool.and_false, Bool.true_and, Bool.false_and, Option.toList_some, Option.toList_none, Nat.succ_ne_zero, false_implies, true_implies, kx_l0, kd_sI, kd_sR, kd_sA, kd_sL, fI_sI_eq, fI_sI_ne, fR_sI, aI_sI, mL_sI, ln_sI, fR_sR_eq, fR_sR_ne, fI_sR, aI_sR, mL_sR, ln_sR, fI_sA, fR_sA, mL_sA, ln_sA, fI_sL, fR_sL, aI_sL, ln_sL, Int32.reduceLT, Int32.reduceLE, z_01, z_02, z_12, kx_10, z_20, z_21, lo_L_lawI_771, lo_L_lawI_772, lo_L_lawI_774, lo_L_lawI_776, lo_L_lawI_777, lo_L_lawI_778, lo_L_lawI_779, lo_L_lawI_782, lo_L_lawI_785, lo_L_lawI_786, lo_L_lawI_789, lo_L_lawI_790, lo_L_lawI_791, lo_L_lawI_794, lo_L_lawI_796, lo_L_lawI_797, lo_L_lawI_798, lo_L_lawI_800, lo_L_lawI_803, lo_L_lawI_804, lo_L_lawI_807, lo_L_lawI_808, lo_L_lawI_811, lo_L_lawI_812, lo_L_lawI_814, lo_L_lawI_816, lo_L_lawI_818, lo_L_lawI_821, lo_L_lawI_824, lo_L_lawI_826, lo_L_lawI_829, lo_L_lawI_830, lo_L_lawI_831, lo_L_lawI_832, lo_L_lawI_834, lo_L_lawI_835, lo_L_lawI_838, lo_L_lawI_839, lo_L_lawI_841, lo_L_lawI_842, lo_L_lawI_845, lo_L_lawI_846, lo_L_lawI_847, lo_L_lawI_849, lo_L_lawI_851, lo_L_lawI_854, lo_L_lawI_855, lo_L_lawI_857, lo_L_lawI_858, lo_L_lawI_860, lo_L_lawI_861, lo_L_lawI_863, lo_L_lawI_864, lo_L_lawI_865, lo_L_lawI_867, lo_L_lawI_870, lo_L_lawI_871, lo_L_lawI_874, lo_L_lawI_876, lo_L_lawI_878, lo_L_lawI_879, lo_L_lawI_881, lo_L_lawI_882, lo_L_lawI_885, lo_L_lawI_886, lo_L_lawI_887, lo_L_lawI_889, lo_L_lawI_890, lo_L_lawI_893, lo_L_lawI_894, lo_L_lawI_895, lo_L_lawI_897, lo_L_lawI_899, lo_L_lawI_902, lo_L_lawI_903, lo_L_lawI_905, lo_L_lawI_907, lo_L_lawI_909, lo_L_lawI_911, lo_L_lawI_912, lo_L_lawI_915, lo_L_lawI_917, lo_L_lawI_919, lo_L_lawI_921, lo_L_lawI_922, lo_L_lawI_925, lo_L_lawI_926, lo_L_lawI_927, lo_L_lawI_929, lo_L_lawI_931, lo_L_lawI_932, lo_L_lawI_934, lo_L_lawI_935, lo_L_lawI_937, lo_L_lawI_939, lo_L_lawI_942, lo_L_lawI_945, lo_L_lawI_946, lo_L_lawI_948, lo_L_lawI_949, lo_L_lawI_952, lo_L_lawI_953, lo_L_lawI_955, lo_L_lawI_958, lo_L_lawI_961, lo_L_lawI_962, f2_L_below, f2_X9_many, f2_X9_leave, f2_X9_even, f2_X9_ofBuyer, f2_X9_bind, f2_X9_back, km, b1', b2, b3, vBuy_4, vBuy_5, vBuy_6, vBuy_7, zb_6, hnb, c1, c2, k2, hNe, kN, d1', d2, d3, hus, c3, c4, c5]
    exact tl bc bs ct lp (bd + us) N [(15, .int (aI M (rf M 22 u) 0 + aI M (rf M 22 u) 1 + aI M (rf M 22 u) 2)), (16, .int (nI kk)), (17, .int us)] (by omega) (by omega) (Or.inr (Or.inr (Or.inr (Or.inl ⟨_, _, _, rfl⟩)))) (hLI N hN hmL)
  · have c5 := eq_false h26
    have h26' := mt iv_le.mpr h26
    rw [iv_0] at h26'
    have c6 : (1 ≤ fI N 26 u) = True := eq_true (iv_le.mpr (by rw [iv_1]; omega))
    have hP := hI_back hN (b := u) (List.mem_of_getElem? hbuN) (by omega)
    have kP : kd (eBack N m u 1) m = 11 := hP.1.1
    have hhP := eq_true (hI_hall hP)
    have v8 := vHal_8 m (eBack N m u 1)
    have e212 := eBack_212 N m u 1
    refine kx_run_ok hG (kx_in [1067]) 120 _ _ _ _ _ _ ?_
    simp only [kx_run_s, kx_run_z, kx_in, kx_beq, decide_true, decide_false, cond_true, cond_false, t_push, t_il, t_ll, t_al, t_is, t_ls, t_as, t_inc, t_bin, t_dv, t_lbin, t_lcmp, t_itl, t_dup, t_pop, t_dupx, t_go, t_gk, cutL, t_if, t_ic, t_nul, t_acmp, t_gI, t_gR, t_pI, t_pZ, t_pR, t_new, t_nwa, t_ial, t_ias, t_aln, t_cst, t_sln, t_sld, t_iret, t_zret, t_lret, t_aret, t_vret, t_no, t_call, t_fun, t_sw, sw_to0, t_oin, t_mm, t_qal, t_qas, t_qln, t_nwq, t_gcl, t_acp, lk, up1, cl1, up2, cl2, kx_c2_i, kx_c2_r, kx_c2_n, kx_c2_l, kx_c2_v, lv_args, kx_sum, kx_isr_r, kx_isr_n, kx_isr_v, kx_ex_r, kx_ex_n, kx_ex_v, kx_ex2_r, kx_ex2_n, kx_ex2_v, va_rf_s, va_rf_n, Value.ref.injEq, reduceCtorEq, exists_eq_left', exists_eq_left, exists_eq', exists_eq, true_and, and_true, false_and, and_false, List.length_cons, List.length_nil, List.take_succ_cons, List.take_zero, List.drop_succ_cons, List.drop_zero, List.reverse_cons, List.reverse_nil, List.nil_append, List.cons_append, List.append_nil, List.getElem?_cons_zero, List.getElem?_cons_succ, List.map_cons, List.map_nil, List.sum_cons, List.sum_nil, kx_cat_i, kx_cat_r, kx_cat_n, kx_cat_l, kx_cat_v, Nat.reduceAdd, Nat.reduceSub, Nat.reduceEqDiff, Nat.reduceLeDiff, Nat.reduceMul, Nat.reduceLT, Nat.add_zero, Nat.zero_add, Nat.sub_zero, Nat.sub_self, Nat.le_refl, Nat.zero_le, ↓reduceIte, not_true_eq_false, not_false_eq_true, or_true, true_or, or_false, false_or, Option.some.injEq, ne_eq, implies_true, forall_const, forall_eq', forall_eq, and_self, or_self, Bool.or_true, Bool.or_false, Bool.true_or, Bool.false_or, Bool.and_true, Bool.and_false, Bool.true_and, Bool.false_and, Option.toList_some, Option.toList_none, Nat.succ_ne_zero, false_implies, true_implies, kx_l0, kd_sI, kd_sR, kd_sA, kd_sL, fI_sI_eq, fI_sI_ne, fR_sI, aI_sI, mL_sI, ln_sI, fR_sR_eq, fR_sR_ne, fI_sR, aI_sR, mL_sR, ln_sR, fI_sA, fR_sA, mL_sA, ln_sA, fI_sL, fR_sL, aI_sL, ln_sL, Int32.reduceLT, Int32.reduceLE, z_01, z_02, z_12, kx_10, z_20, z_21, lo_L_lawI_771, lo_L_lawI_772, lo_L_lawI_774, lo_L_lawI_776, lo_L_lawI_777, lo_L_lawI_778, lo_L_lawI_779, lo_L_lawI_782, lo_L_lawI_785, lo_L_lawI_786, lo_L_lawI_789, lo_L_lawI_790, lo_L_lawI_791, lo_L_lawI_794, lo_L_lawI_796, lo_L_lawI_797, lo_L_lawI_798, lo_L_lawI_800, lo_L_lawI_803, lo_L_lawI_804, lo_L_lawI_807, lo_L_lawI_808, lo_L_lawI_811, lo_L_lawI_812, lo_L_lawI_814, lo_L_lawI_816, lo_L_lawI_818, lo_L_lawI_821, lo_L_lawI_824, lo_L_lawI_826, lo_L_lawI_829, lo_L_lawI_830, lo_L_lawI_831, lo_L_lawI_832, lo_L_lawI_834, lo_L_lawI_835, lo_L_lawI_838, lo_L_lawI_839, lo_L_lawI_841, lo_L_lawI_842, lo_L_lawI_845, lo_L_lawI_846, lo_L_lawI_847, lo_L_lawI_849, lo_L_lawI_851, lo_L_lawI_854, lo_L_lawI_855, lo_L_lawI_857, lo_L_lawI_858, lo_L_lawI_860, lo_L_lawI_861, lo_L_lawI_863, lo_L_lawI_864, lo_L_lawI_865, lo_L_lawI_867, lo_L_lawI_870, lo_L_lawI_871, lo_L_lawI_874, lo_L_lawI_876, lo_L_lawI_878, lo_L_lawI_879, lo_L_lawI_881, lo_L_lawI_882, lo_L_lawI_885, lo_L_lawI_886, lo_L_lawI_887, lo_L_lawI_889, lo_L_lawI_890, lo_L_lawI_893, lo_L_lawI_894, lo_L_lawI_895, lo_L_lawI_897, lo_L_lawI_899, lo_L_lawI_902, lo_L_lawI_903, lo_L_lawI_905, lo_L_lawI_907, lo_L_lawI_909, lo_L_lawI_911, lo_L_lawI_912, lo_L_lawI_915, lo_L_lawI_917, lo_L_lawI_919, lo_L_lawI_921, lo_L_lawI_922, lo_L_lawI_925, lo_L_lawI_926, lo_L_lawI_927, lo_L_lawI_929, lo_L_lawI_931, lo_L_lawI_932, lo_L_lawI_934, lo_L_lawI_935, lo_L_lawI_937, lo_L_lawI_939, lo_L_lawI_942, lo_L_lawI_945, lo_L_lawI_946, lo_L_lawI_948, lo_L_lawI_949, lo_L_lawI_952, lo_L_lawI_953, lo_L_lawI_955, lo_L_lawI_958, lo_L_lawI_961, lo_L_lawI_962, f2_L_below, f2_X9_many, f2_X9_leave, f2_X9_even, f2_X9_ofBuyer, f2_X9_bind, f2_X9_back, km, b1', b2, b3, vBuy_4, vBuy_5, vBuy_6, vBuy_7, zb_6, hnb, c1, c2, k2, hNe, kN, d1', d2, d3, hus, c3, c4, c5, c6, kP, hhP, v8, e212, eq_self]
    exact tl bc bs ct lp (bd + us) (eBack N m u 1) [(15, .int (aI M (rf M 22 u) 0 + aI M (rf M 22 u) 1 + aI M (rf M 22 u) 2)), (16, .int (nI kk)), (17, .int us)] (by omega) (by omega) (Or.inr (Or.inr (Or.inr (Or.inl ⟨_, _, _, rfl⟩)))) (hLI _ hP (by rw [mL_eBack]; exact hmL))
end LA
