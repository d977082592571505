def sE : List kx_E1 → Int32
  | [] => 0
  | e :: l => eT e + sE l
theorem sE_app (l k : List kx_E1) : sE (l ++ k) = sE l + sE k := by
  induction l with
  | nil => show sE k = 0 + sE k; rw [Int32.zero_add]
  | cons e l ih => show eT e + sE (l ++ k) = eT e + sE l + sE k; rw [ih, Int32.add_assoc]
theorem lf_nn {m t g : Nat} {M0 : kx_M} : ∀ {l : List kx_E1}, bOk m t g M0 l → 0 ≤ lf l ∧ (l ≠ [] → 1 ≤ lf l) := by
  intro l
  induction l with
  | nil => intro _; exact ⟨Int.le_refl 0, fun z => absurd rfl z⟩
  | cons e l ih =>
    rintro ⟨-, h1, h2⟩
    have := (ih h2).1
    exact ⟨by show 0 ≤ iv (eT e) + lf l; omega, fun _ => by show 1 ≤ iv (eT e) + lf l; omega⟩
theorem iv_sE {m t g : Nat} {M0 : kx_M} : ∀ {l : List kx_E1}, bOk m t g M0 l → lf l ≤ 10000 → iv (sE l) = lf l := by
  intro l
  induction l with
  | nil => intro _ _; rfl
  | cons e l ih =>
    rintro ⟨-, h1, h2⟩ h3
    have h4 : lf (e :: l) = iv (eT e) + lf l := rfl
    have h5 := (lf_nn h2).1
    have := ih h2 (by omega)
    show iv (eT e + sE l) = iv (eT e) + lf l
    rw [iv_add (by omega) (by omega), this]
/-- the lists that stay -/
def pKL (A : Nat → Nat) (M N : kx_M) : Prop := ∀ i, 200 ≤ i → i ≤ 205 → i ≠ 203 → mL N (A i) = mL M (A i)
theorem pKL.rf {A : Nat → Nat} {M : kx_M} : pKL A M M := fun _ _ _ _ => rfl
theorem pKL.tr {A : Nat → Nat} {M N P : kx_M} (h : pKL A M N) (g : pKL A N P) : pKL A M P := fun i a b c => (g i a b c).trans (h i a b c)
theorem pKL.of {A : Nat → Nat} {M N : kx_M} (h : mL N = mL M) : pKL A M N := fun i _ _ _ => by rw [h]
section LC
variable {m : Nat} {A : Nat → Nat} {cut bound : Int} {K : Int32} {H : Int} {M : kx_M}
theorem vRow_at (s : hS m A M) {k x : Nat} (hk : (mL M (A 203))[k]? = some x) (hl : (mL M (A 203)).length ≤ 1000) : vRow M m (nI k) = fI M 120 x := by
  have hlt : k < (mL M (A 203)).length := (List.getElem?_eq_some_iff.mp hk).1
  have hge : ¬ Int32.ofNat (mL M (A 203)).length ≤ nI k := fun z => nI_ge (a := k) (b := (mL M (A 203)).length) hlt (by omega) z
  unfold vRow
  rw [hS_rf s (i := 203) (by decide) (by decide), if_neg (Int32.not_lt.mpr (nI_pos' (by omega))), if_neg hge, nI_clamp (by omega), hk]
theorem vRow_no (s : hS m A M) {k : Nat} (hk : (mL M (A 203)).length ≤ k) (hl : k ≤ 1000) : vRow M m (nI k) = -1 := by
  have hge : Int32.ofNat (mL M (A 203)).length ≤ nI k := nI_le hk (by omega)
  unfold vRow
  rw [hS_rf s (i := 203) (by decide) (by decide), if_neg (Int32.not_lt.mpr (nI_pos' (by omega))), if_pos hge]
theorem row_len (h : hI m A cut bound K H 0 M) : (mL M (A 203)).length ≤ 16 := by
  have r3 := h.2.2.2.2.2.2.2.1.2.2
  have l16 := h.2.2.2.2.2.2.1.2.1
  have := List.length_filter_le (fun x => decide (fI M 129 x = 1)) (mL M (A 202))
  omega
theorem row_ok (h : hI m A cut bound K H 0 M) : kd M m = 11 ∧ ∃ t, fR M 203 m = some t ∧ kd M t = 1 ∧ (mL M t).length ≤ 1000 ∧ ∀ x ∈ mL M t, kd M x = 7 := by
  have s := h.1
  have hr := row_len h
  exact ⟨s.1, A 203, s.2.1 203 (by decide) (by decide), s.2.2.1 203 (by decide) (by decide), by omega, fun x hx => (h.2.2.2.2.2.2.1.2.2.2 x (h.2.2.2.2.2.2.2.1.2.1 x hx).1).1⟩
theorem vSal_0 (M : kx_M) (x : Nat) : vSale M x 0 = fI M 120 (rf M 160 x) := by unfold vSale; exact if_pos (by decide)
theorem vSal_2 (M : kx_M) (x : Nat) : vSale M x 2 = fI M 163 x := by unfold vSale; rw [if_neg (by decide), if_neg (by decide)]; exact if_pos (by decide)
theorem vSal_3 (M : kx_M) (x : Nat) : vSale M x 3 = fI M 164 x := by unfold vSale; rw [if_neg (by decide), if_neg (by decide), if_neg (by decide)]; exact if_pos (by decide)
theorem vSal_4 (M : kx_M) (x : Nat) : vSale M x 4 = fI M 165 x := by unfold vSale; rw [if_neg (by decide), if_neg (by decide), if_neg (by decide)]; exact if_neg (by decide)
/-- what the entries leave of fields that no sale changes, and of a sale asked -/
theorem Bs_keep {t g tl sl : Nat} {M0 N : kx_M} {Es : List kx_E1} (h : Bs m t g tl sl M0 Es N) {i x : Nat} (hx : kd M0 x ≠ 0) (hr : ¬ rn i) (hi : i ≠ 23 ∧ i ≠ 26 ∧ i ≠ 214 ∧ i ≠ 101 ∧ i ≠ 104 ∧ i ≠ 125 ∧ i ≠ 127 ∧ i ≠ 216 ∧ i ≠ 217 ∧ i ≠ 146) (h9 : i ≠ 129) : fI N i x = fI M0 i x := by
  rw [(h.1 x hx).2.1 i hr h9, dL_210 _ _ _ _ _ hi, Int32.add_zero]
theorem sale_at (s : hS m A M) {t g : Nat} {M0 : kx_M} {done rest : List kx_E1} {e : kx_E1} (hz : (mL M (A 207)).length ≤ 20) (hB : Bs m t g (A 206) (A 207) M0 (done ++ e :: rest) M) (hp : pSaleAt M (eS e)) : (∃ t s, fR M 207 m = some t ∧ kd M t = 1 ∧ 0 ≤ nI done.length ∧ nI done.length < Int32.ofNat (mL M t).length ∧ 0 ≤ Int32.ofNat (mL M t).length - 1 - nI done.length ∧ Int32.ofNat (mL M t).length - 1 - nI done.length < Int32.ofNat (mL M t).length ∧ (mL M t)[(Int32.ofNat (mL M t).length - 1 - nI done.length).toNatClampNeg]? = some s ∧ pSaleAt M s) ∧ el M 207 m (Int32.ofNat (mL M (A 207)).length - 1 - nI done.length) = eS e := by
  obtain ⟨-, -, -, ⟨pre, k4, k4l, -⟩, -⟩ := hB
  have hrev : ((done ++ e :: rest).map eS).reverse = (rest.map eS).reverse ++ eS e :: (done.map eS).reverse := by
    rw [List.map_append, List.map_cons, List.reverse_append, List.reverse_cons, List.append_assoc]
    rfl
  rw [hrev, ← List.append_assoc] at k4
  have hlen : (mL M (A 207)).length = (pre ++ (rest.map eS).reverse).length + (done.length + 1) := by rw [k4, List.length_append, List.length_cons, List.length_reverse (as := done.map eS), List.length_map]
  have hix : Int32.ofNat (mL M (A 207)).length - 1 - nI done.length = nI (pre ++ (rest.map eS).reverse).length := by
    rw [iv_eq]
    have e1 : iv (Int32.ofNat (mL M (A 207)).length) = ((mL M (A 207)).length : Int) := iv_nI (by omega)
    have e2 : iv (nI done.length) = (done.length : Int) := iv_nI (by omega)
    have e3 : iv (Int32.ofNat (mL M (A 207)).length - 1) = ((mL M (A 207)).length : Int) - 1 := by rw [iv_sub (by rw [e1, iv_1]; omega) (by rw [e1, iv_1]; omega), e1, iv_1]
    rw [iv_sub (by rw [e3, e2]; omega) (by rw [e3, e2]; omega), e3, e2, iv_nI (by omega)]
    omega
  have hget : (mL M (A 207))[(pre ++ (rest.map eS).reverse).length]? = some (eS e) := by
    rw [k4, List.getElem?_append_right (Nat.le_refl _), Nat.sub_self]
    rfl
  have hcl : (nI (pre ++ (rest.map eS).reverse).length).toNatClampNeg = (pre ++ (rest.map eS).reverse).length := nI_clamp (by omega)
  rw [hix]
  refine ⟨⟨A 207, eS e, s.2.1 207 (by decide) (by decide), s.2.2.1 207 (by decide) (by decide), nI_pos' (by omega), nI_lt (b := (mL M (A 207)).length) (by omega) (by omega), ?_⟩, ?_⟩
  · rw [hix, hcl]
    exact ⟨nI_pos' (by omega), nI_lt (b := (mL M (A 207)).length) (by omega) (by omega), hget, hp⟩
  · unfold el
    rw [hS_rf s (i := 207) (by decide) (by decide), hcl, hget]
    rfl
set_option maxRecDepth 16000 in
theorem c2_L_isClocked (E : kx_E) {t : Nat} {rest : List Nat} (h : hI m A cut bound K H 0 M) (hrow : mL M (A 203) = t :: rest) : c2t_L_isClocked E [.ref m] M 36 27099 (fun v N => v = some (.int 1) ∧ hI m A cut bound K H 0 N ∧ pKL A M N) := by
  have s := h.1
  obtain ⟨hp, ht, h129, htr⟩ := hI_pop h hrow
  obtain ⟨k, hk⟩ := List.getElem?_of_mem ht
  obtain ⟨kg, g, g1, g2, g3, g4, g5⟩ := lot_gro h ht
  have f120 := h.2.2.2.2.2.2.1.2.2.1 k t hk
  have hrl := row_len h
  have km : kd M m = 11 := s.1
  have hrowc := eq_true (row_ok h)
  have q0 : vRow M m 0 = nI k := by
    have := vRow_at s (k := 0) (x := t) (by rw [hrow]; rfl) (by omega)
    rw [f120] at this
    exact this
  obtain ⟨nx, hnx⟩ : ∃ nx, vRow M m 1 = nx := ⟨_, rfl⟩
  obtain ⟨a1, a2, -⟩ := at_lot h hk
  have a1' := eq_true a1
  have hh := eq_true (hI_hall h)
  have b7 := vHal_7 s
  have hrun := hI_run h ht
  have hbnd : pBnd (sL M (A 203) rest) t (A 204) (A 205) := hI_pBnd hp (by rw [mL_sL_ne _ _ _ _ (s.ne (by decide) (by decide) (by decide))]; exact ht)
  have hl : ∀ i, 200 ≤ i → i ≤ 207 → i ≠ 203 → mL (sL M (A 203) rest) (A i) = mL M (A i) := fun i i1 i2 i3 => mL_sL_ne _ _ _ _ (s.ne ⟨i1, i2⟩ (by decide) i3)
  have l5 := hl 205 (by decide) (by decide) (by decide)
  have hb0 : hB (A 209) (mL M (A 205)) (eBegin (sL M (A 203) rest) (A 209) t (fI M 130 t) (fI M 131 t) (A 204) (A 205)) := by
    have := hB_begin (M := sL M (A 203) rest) (r := A 209) (t := t) (told := fI M 130 t) (mn := fI M 131 t) hbnd
    rw [l5] at this
    exact this
  have c64 : fI (eBegin (sL M (A 203) rest) (A 209) t (fI M 130 t) (fI M 131 t) (A 204) (A 205)) 64 (A 209) = fI M 131 t := fI_begin_run.2.2.2.2.1
  have hclk := h_clock2 E (W0 := eBegin (sL M (A 203) rest) (A 209) t (fI M 130 t) (fI M 131 t) (A 204) (A 205)) h hrow g4 g2 aG.refl hb0 (by rw [c64]; exact Int32.le_refl _) (by
    have := vAllGe_own (r := A 209) (l := mL M (A 205)) 9 _ hb0
    rw [c64] at this
    exact this)
  have hrowc2 := eq_true (row_ok h).2
  refine en_L_isClocked E (Nat.le_of_ble_eq_true rfl) (fun G hG => kx_run_ok hG (kx_in [40, 122]) 90 _ _ _ _ _ _ ?_)
  simp only [kx_run_s, kx_run_z, kx_in, kx_beq, decide_true, decide_false, cond_true, cond_false, t_push, t_il, t_ll, t_al, t_is, t_ls, t_as, t_inc, t_bin, t_dv, t_lbin, t_lcmp, t_itl, t_dup, t_pop, t_dupx, t_go, t_gk, cutL, t_if, t_ic, t_nul, t_acmp, t_gI, t_gR, t_pI, t_pZ, t_pR, t_new, t_nwa, t_ial, t_ias, t_aln, t_cst, t_sln, t_sld, t_iret, t_zret, t_lret, t_aret, t_vret, t_no, t_call, t_fun, t_sw, sw_to0, t_oin, t_mm, t_qal, t_qas, t_qln, t_nwq, t_gcl, t_acp, lk, up1, cl1, up2, cl2, kx_c2_i, kx_c2_r, kx_c2_n, kx_c2_l, kx_c2_v, lv_args, kx_sum, kx_isr_r, kx_isr_n, kx_isr_v, kx_ex_r, kx_ex_n, kx_ex_v, kx_ex2_r, kx_ex2_n, kx_ex2_v, va_rf_s, va_rf_n, Value.ref.injEq, reduceCtorEq, exists_eq_left', exists_eq_left, exists_eq', exists_eq, true_and, and_true, false_and, and_false, List.length_cons, List.length_nil, List.take_succ_cons, List.take_zero, List.drop_succ_cons, List.drop_zero, List.reverse_cons, List.reverse_nil, List.nil_append, List.cons_append, List.append_nil, List.getElem?_cons_zero, List.getElem?_cons_succ, List.map_cons, List.map_nil, List.sum_cons, List.sum_nil, kx_cat_i, kx_cat_r, kx_cat_n, kx_cat_l, kx_cat_v, Nat.reduceAdd, Nat.reduceSub, Nat.reduceEqDiff, Nat.reduceLeDiff, Nat.reduceMul, Nat.reduceLT, Nat.add_zero, Nat.zero_add, Nat.sub_zero, Nat.sub_self, Nat.le_refl, Nat.zero_le, ↓reduceIte, not_true_eq_false, not_false_eq_true, or_true, true_or, or_false, false_or, Option.some.injEq, ne_eq, implies_true, forall_const, forall_eq', forall_eq, and_self, or_self, Bool.or_true, Bool.or_false, Bool.true_or, Bool.false_or, Bool.and_true, Bool.and_false, Bool.true_and, Bool.false_and, Option.toList_some, Option.toList_none, Nat.succ_ne_zero, false_implies, true_implies, kx_l0, kd_sI, kd_sR, kd_sA, kd_sL, fI_sI_eq, fI_sI_ne, fR_sI, aI_sI, mL_sI, ln_sI, fR_sR_eq, fR_sR_ne, fI_sR, aI_sR, mL_sR, ln_sR, fI_sA, fR_sA, mL_sA, ln_sA, fI_sL, fR_sL, aI_sL, ln_sL, Int32.reduceLT, Int32.reduceLE, z_01, z_02, z_12, kx_10, z_20, z_21, lo_L_isClocked_0, lo_L_isClocked_1, lo_L_isClocked_2, lo_L_isClocked_5, lo_L_isClocked_6, lo_L_isClocked_7, lo_L_isClocked_8, lo_L_isClocked_11, lo_L_isClocked_12, lo_L_isClocked_13, lo_L_isClocked_14, lo_L_isClocked_15, lo_L_isClocked_18, lo_L_isClocked_19, lo_L_isClocked_20, lo_L_isClocked_21, lo_L_isClocked_23, lo_L_isClocked_26, lo_L_isClocked_28, lo_L_isClocked_29, lo_L_isClocked_31, lo_L_isClocked_34, lo_L_isClocked_36, lo_L_isClocked_37, lo_L_isClocked_40, lo_L_isClocked_42, lo_L_isClocked_43, lo_L_isClocked_44, lo_L_isClocked_45, lo_L_isClocked_48, lo_L_isClocked_49, lo_L_isClocked_51, lo_L_isClocked_52, lo_L_isClocked_55, lo_L_isClocked_56, lo_L_isClocked_57, lo_L_isClocked_59, lo_L_isClocked_62, lo_L_isClocked_64, lo_L_isClocked_65, lo_L_isClocked_68, lo_L_isClocked_69, lo_L_isClocked_72, lo_L_isClocked_73, lo_L_isClocked_76, lo_L_isClocked_77, lo_L_isClocked_78, lo_L_isClocked_81, lo_L_isClocked_82, lo_L_isClocked_85, lo_L_isClocked_86, lo_L_isClocked_88, lo_L_isClocked_91, lo_L_isClocked_93, lo_L_isClocked_96, lo_L_isClocked_97, lo_L_isClocked_100, lo_L_isClocked_101, lo_L_isClocked_103, lo_L_isClocked_106, lo_L_isClocked_107, lo_L_isClocked_110, lo_L_isClocked_111, lo_L_isClocked_114, lo_L_isClocked_115, lo_L_isClocked_116, lo_L_isClocked_117, lo_L_isClocked_119, lo_L_isClocked_120, lo_L_isClocked_122, lo_L_isClocked_124, lo_L_isClocked_125, lo_L_isClocked_127, lo_L_isClocked_130, lo_L_isClocked_132, lo_L_isClocked_133, lo_L_isClocked_136, lo_L_isClocked_138, lo_L_isClocked_140, lo_L_isClocked_143, lo_L_isClocked_144, lo_L_isClocked_146, lo_L_isClocked_147, lo_L_isClocked_150, lo_L_isClocked_151, lo_L_isClocked_154, lo_L_isClocked_155, lo_L_isClocked_157, lo_L_isClocked_158, lo_L_isClocked_161, lo_L_isClocked_163, lo_L_isClocked_166, lo_L_isClocked_167, lo_L_isClocked_169, lo_L_isClocked_170, lo_L_isClocked_173, lo_L_isClocked_175, lo_L_isClocked_178, lo_L_isClocked_179, lo_L_isClocked_181, lo_L_isClocked_182, lo_L_isClocked_185, lo_L_isClocked_186, lo_L_isClocked_187, lo_L_isClocked_190, lo_L_isClocked_193, lo_L_isClocked_194, lo_L_isClocked_195, lo_L_isClocked_197, lo_L_isClocked_198, lo_L_isClocked_200, lo_L_isClocked_201, lo_L_isClocked_204, lo_L_isClocked_205, lo_L_isClocked_207, lo_L_isClocked_210, lo_L_isClocked_213, lo_L_isClocked_215, lo_L_isClocked_217, lo_L_isClocked_220, lo_L_isClocked_221, lo_L_isClocked_224, lo_L_isClocked_225, f2_X9_row, f2_X9_ofLot, f2_X9_many, f2_X9_sale, km, hrowc2, q0, hnx, a1', a2, hh, b7, vLot_2, vLot_9]
  refine ⟨36, 27099, by decide, by decide, hclk.mono ?_⟩
  rintro v N ⟨Es, rfl, hN, hB, hlen, hpr, hlf, -, -, -, hst⟩
  have hBk := fun i x (hx : kd M x ≠ 0) (hr : ¬ rn i) hi (h9 : i ≠ 129) => (Bs_keep hB (i := i) (x := x) hx hr hi h9).trans (congrFun (congrFun (fI_sL M (A 203) rest) i) x)
  have sN := hN.1
  have lN : ∀ i, 200 ≤ i → i ≤ 207 → i ≠ 203 → i ≠ 206 → i ≠ 207 → mL N (A i) = mL M (A i) := fun i i1 i2 i3 i4 i5 => by
    rw [hB.2.1 (A i) (s.2.2.1 i i1 i2) (s.ne ⟨i1, i2⟩ (by decide) i4) (s.ne ⟨i1, i2⟩ (by decide) i5), hl i i1 i2 i3]
  have rowN : mL N (A 203) = rest := by
    rw [hB.2.1 (A 203) (s.2.2.1 203 (by decide) (by decide)) (s.ne (by decide) (by decide) (by decide)) (s.ne (by decide) (by decide) (by decide)), mL_sL_eq]
  have hkl : pKL A M N := fun i i1 i2 i3 => lN i i1 (by omega) i3 (by omega) (by omega)
  have kN : kd N m = 11 := sN.1
  have hkN : (mL N (A 202))[k]? = some t := by rw [lN 202 (by decide) (by decide) (by decide) (by decide) (by decide)]; exact hk
  obtain ⟨d1, d2, -⟩ := at_lot hN hkN
  have d1' := eq_true d1
  have hhN := eq_true (hI_hall hN)
  have b7N := vHal_7 sN
  have b0N := vHal_0 m N
  have rowc := eq_true (row_ok hN).2
  have e210 : fI N 210 m = fI M 210 m := hBk 210 m (by rw [km]; decide) (by unfold rn; omega) (by decide) (by decide)
  have t7 : kd M t = 7 := (h.2.2.2.2.2.2.1.2.2.2 t ht).1
  have e120 : fI N 120 t = nI k := (hBk 120 t (by rw [t7]; decide) (by unfold rn; omega) (by decide) (by decide)).trans f120
  have qN : vRow N m 0 = nx := by
    rw [← hnx]
    have hz := hN.2.2.2.2.2.2.2.1.1
    cases hr : rest with
    | nil =>
      have e1 := vRow_no sN (k := 0) (by rw [rowN, hr]; exact Nat.le_refl 0) (by omega)
      have e2 := vRow_no s (k := 1) (by rw [hrow, hr]; exact Nat.le_refl 1) (by omega)
      exact e1.trans e2.symm
    | cons y rest2 =>
      have hrl2 := row_len hN
      have e1 := vRow_at sN (k := 0) (x := y) (by rw [rowN, hr]; rfl) (by omega)
      have e2 := vRow_at s (k := 1) (x := y) (by rw [hrow, hr]; rfl) (by omega)
      have hy : y ∈ mL M (A 202) := (h.2.2.2.2.2.2.2.1.2.1 y (by rw [hrow, hr]; exact List.mem_cons_of_mem _ List.mem_cons_self)).1
      have y7 : kd M y = 7 := (h.2.2.2.2.2.2.1.2.2.2 y hy).1
      exact e1.trans ((hBk 120 y (by rw [y7]; decide) (by unfold rn; omega) (by decide) (by decide)).trans e2.symm)
  have hra : (mL N (A 206)).length = (mL M (A 206)).length + Es.length := by
    obtain ⟨Qs, k3, k3'⟩ := hB.2.2.1
    rw [k3, List.length_append, k3', hl 206 (by decide) (by decide) (by decide)]
  have hrM := rail_len h
  have hrN := rail_len hN
  have hok := hB.2.2.2.2.2
  obtain ⟨lf0, lf1⟩ := lf_nn hok
  have hm125 := (h.2.2.2.2.2.2.1.2.2.2 t ht).2.2.2.1
  have hn125 := (hN.2.2.2.2.2.2.1.2.2.2 t (List.mem_of_getElem? hkN)).2.2.2.1
  have hs1 : 1 ≤ iv (fI M 125 t) := by
    have l7 := (h.2.2.2.2.2.2.1.2.2.2 t ht).2.2.2.2.2.2
    rw [h129] at l7
    rcases l7 with l7 | l7
    · exact l7.2
    · exact absurd l7.1 (by decide)
  generalize hsold : fI M 125 t - fI N 125 t = sold
  have ivs : iv sold = lf Es := by rw [← hsold, iv_sub (by omega) (by omega)]; omega
  have f_a : fI M 125 t - sold = fI N 125 t := by rw [← hsold]; grind
  have hsum : sE Es = sold := by rw [iv_eq, iv_sE hok (by omega), ivs]
  have f_e : nI (mL N (A 206)).length - nI (mL M (A 206)).length = nI Es.length := by
    rw [iv_eq, iv_sub (by rw [iv_nI (by omega), iv_nI (by omega)]; omega) (by rw [iv_nI (by omega), iv_nI (by omega)]; omega), iv_nI (by omega), iv_nI (by omega), iv_nI (by omega), hra]
    omega
  have loop : ∀ (rs done : List kx_E1), Es = done ++ rs → G 0 0 122 [(0, .ref m), (1, .int (nI k)), (2, .int nx), (3, .int (fI M 125 t)), (4, .int (fI M 131 t)), (5, .int (nI (mL M (A 206)).length)), (6, .int sold), (7, .int (sE done)), (8, .int (nI done.length))] [] N := by
    intro rs
    induction rs with
    | nil =>
      intro done hd
      rw [List.append_nil] at hd
      have c1 : (nI Es.length ≤ nI done.length) = True := eq_true (by rw [hd]; exact nI_le (Nat.le_refl _) (by rw [← hd]; omega))
      rw [← hd] at c1 ⊢
      have c2 : (sE Es = sold) = True := eq_true hsum
      refine kx_run_ok hG (kx_in [40, 122]) 30 _ _ _ _ _ _ ?_
      simp only [kx_run_s, kx_run_z, kx_in, kx_beq, decide_true, decide_false, cond_true, cond_false, t_push, t_il, t_ll, t_al, t_is, t_ls, t_as, t_inc, t_bin, t_dv, t_lbin, t_lcmp, t_itl, t_dup, t_pop, t_dupx, t_go, t_gk, cutL, t_if, t_ic, t_nul, t_acmp, t_gI, t_gR, t_pI, t_pZ, t_pR, t_new, t_nwa, t_ial, t_ias, t_aln, t_cst, t_sln, t_sld, t_iret, t_zret, t_lret, t_aret, t_vret, t_no, t_call, t_fun, t_sw, sw_to0, t_oin, t_mm, t_qal, t_qas, t_qln, t_nwq, t_gcl, t_acp, lk, up1, cl1, up2, cl2, kx_c2_i, kx_c2_r, kx_c2_n, kx_c2_l, kx_c2_v, lv_args, kx_sum, kx_isr_r, kx_isr_n, kx_isr_v, kx_ex_r, kx_ex_n, kx_ex_v, kx_ex2_r, kx_ex2_n, kx_ex2_v, va_rf_s, va_rf_n, Value.ref.injEq, reduceCtorEq, exists_eq_left', exists_eq_left, exists_eq', exists_eq, true_and, and_true, false_and, and_false, List.length_cons, List.length_nil, List.take_succ_cons, List.take_zero, List.drop_succ_cons, List.drop_zero, List.reverse_cons, List.reverse_nil, List.nil_append, List.cons_append, List.append_nil, List.getElem?_cons_zero, List.getElem?_cons_succ, List.map_cons, List.map_nil, List.sum_cons, List.sum_nil, kx_cat_i, kx_cat_r, kx_cat_n, kx_cat_l, kx_cat_v, Nat.reduceAdd, Nat.reduceSub, Nat.reduceEqDiff, Nat.reduceLeDiff, Nat.reduceMul, Nat.reduceLT, Nat.add_zero, Nat.zero_add, Nat.sub_zero, Nat.sub_self, Nat.le_refl, Nat.zero_le, ↓reduceIte, not_true_eq_false, not_false_eq_true, or_true, true_or, or_false, false_or, Option.some.injEq, ne_eq, implies_true, forall_const, forall_eq', forall_eq, and_self, or_self, Bool.or_true, Bool.or_false, Bool.true_or, Bool.false_or, Bool.and_true, Bool.and_false, Bool.true_and, Bool.false_and, Option.toList_some, Option.toList_none, Nat.succ_ne_zero, false_implies, true_implies, kx_l0, kd_sI, kd_sR, kd_sA, kd_sL, fI_sI_eq, fI_sI_ne, fR_sI, aI_sI, mL_sI, ln_sI, fR_sR_eq, fR_sR_ne, fI_sR, aI_sR, mL_sR, ln_sR, fI_sA, fR_sA, mL_sA, ln_sA, fI_sL, fR_sL, aI_sL, ln_sL, Int32.reduceLT, Int32.reduceLE, z_01, z_02, z_12, kx_10, z_20, z_21, lo_L_isClocked_0, lo_L_isClocked_1, lo_L_isClocked_2, lo_L_isClocked_5, lo_L_isClocked_6, lo_L_isClocked_7, lo_L_isClocked_8, lo_L_isClocked_11, lo_L_isClocked_12, lo_L_isClocked_13, lo_L_isClocked_14, lo_L_isClocked_15, lo_L_isClocked_18, lo_L_isClocked_19, lo_L_isClocked_20, lo_L_isClocked_21, lo_L_isClocked_23, lo_L_isClocked_26, lo_L_isClocked_28, lo_L_isClocked_29, lo_L_isClocked_31, lo_L_isClocked_34, lo_L_isClocked_36, lo_L_isClocked_37, lo_L_isClocked_40, lo_L_isClocked_42, lo_L_isClocked_43, lo_L_isClocked_44, lo_L_isClocked_45, lo_L_isClocked_48, lo_L_isClocked_49, lo_L_isClocked_51, lo_L_isClocked_52, lo_L_isClocked_55, lo_L_isClocked_56, lo_L_isClocked_57, lo_L_isClocked_59, lo_L_isClocked_62, lo_L_isClocked_64, lo_L_isClocked_65, lo_L_isClocked_68, lo_L_isClocked_69, lo_L_isClocked_72, lo_L_isClocked_73, lo_L_isClocked_76, lo_L_isClocked_77, lo_L_isClocked_78, lo_L_isClocked_81, lo_L_isClocked_82, lo_L_isClocked_85, lo_L_isClocked_86, lo_L_isClocked_88, lo_L_isClocked_91, lo_L_isClocked_93, lo_L_isClocked_96, lo_L_isClocked_97, lo_L_isClocked_100, lo_L_isClocked_101, lo_L_isClocked_103, lo_L_isClocked_106, lo_L_isClocked_107, lo_L_isClocked_110, lo_L_isClocked_111, lo_L_isClocked_114, lo_L_isClocked_115, lo_L_isClocked_116, lo_L_isClocked_117, lo_L_isClocked_119, lo_L_isClocked_120, lo_L_isClocked_122, lo_L_isClocked_124, lo_L_isClocked_125, lo_L_isClocked_127, lo_L_isClocked_130, lo_L_isClocked_132, lo_L_isClocked_133, lo_L_isClocked_136, lo_L_isClocked_138, lo_L_isClocked_140, lo_L_isClocked_143, lo_L_isClocked_144, lo_L_isClocked_146, lo_L_isClocked_147, lo_L_isClocked_150, lo_L_isClocked_151, lo_L_isClocked_154, lo_L_isClocked_155, lo_L_isClocked_157, lo_L_isClocked_158, lo_L_isClocked_161, lo_L_isClocked_163, lo_L_isClocked_166, lo_L_isClocked_167, lo_L_isClocked_169, lo_L_isClocked_170, lo_L_isClocked_173, lo_L_isClocked_175, lo_L_isClocked_178, lo_L_isClocked_179, lo_L_isClocked_181, lo_L_isClocked_182, lo_L_isClocked_185, lo_L_isClocked_186, lo_L_isClocked_187, lo_L_isClocked_190, lo_L_isClocked_193, lo_L_isClocked_194, lo_L_isClocked_195, lo_L_isClocked_197, lo_L_isClocked_198, lo_L_isClocked_200, lo_L_isClocked_201, lo_L_isClocked_204, lo_L_isClocked_205, lo_L_isClocked_207, lo_L_isClocked_210, lo_L_isClocked_213, lo_L_isClocked_215, lo_L_isClocked_217, lo_L_isClocked_220, lo_L_isClocked_221, lo_L_isClocked_224, lo_L_isClocked_225, f2_X9_row, f2_X9_ofLot, f2_X9_many, f2_X9_sale, kN, hhN, b7N, f_e, c1, c2]
      exact ⟨hN, hkl⟩
    | cons e rs ih =>
      intro done hd
      have hl1 : Es.length = done.length + (rs.length + 1) := by rw [hd, List.length_append, List.length_cons]
      have c1 : (nI Es.length ≤ nI done.length) = False := eq_false (fun z => nI_ge (a := done.length) (b := Es.length) (by omega) (by omega) z)
      have c2 : ((20 : Int32) ≤ nI done.length) = False := eq_false (fun z => by
        have := iv_le.mp z
        rw [iv_20, iv_nI (by omega)] at this
        omega)
      have he : e ∈ Es := by rw [hd]; exact List.mem_append_right _ List.mem_cons_self
      obtain ⟨p1, p2, p3, p4, p5, p6, p7, p8, p9, p10⟩ := hB.2.2.2.2.1 e he
      have hss : eS e ∈ mL N (A 207) := by
        obtain ⟨pre, k4, -, -⟩ := hB.2.2.2.1
        rw [k4]
        exact List.mem_append_right _ (List.mem_reverse.mpr (List.mem_map_of_mem he))
      have hz := hN.2.2.2.2.2.2.2.2.2.1
      obtain ⟨z1, z2⟩ := sale_at sN hz.1 (by rw [← hd]; exact hB) (hz.2 _ hss)
      have z1' := eq_true z1
      have r7 : rf N 207 m = A 207 := hS_rf sN (by decide) (by decide)
      have r160 : rf N 160 (eS e) = t := by unfold rf; rw [p2]; rfl
      rw [fI_sL] at p7
      obtain ⟨j1, j2⟩ := hpr e he
      have j1' : (eP e < fI M 131 t) = False := eq_false (Int32.not_lt.mpr j1)
      have j2' : ((99 : Int32) < eP e) = False := eq_false (fun z => by
        have := iv_lt.mp z
        rw [iv_99] at this
        omega)
      have hn := ih (done ++ [e]) (by rw [hd, List.append_assoc]; rfl)
      have hsd : sE (done ++ [e]) = sE done + eT e := by
        rw [sE_app]
        show _ + (eT e + 0) = _
        rw [Int32.add_zero]
      have hld : nI (done ++ [e]).length = nI done.length + 1 := by rw [List.length_append]; exact (nI_1 _).symm
      rw [hsd, hld] at hn
      refine kx_run_ok hG (kx_in [40, 122]) 60 _ _ _ _ _ _ ?_
      simp only [kx_run_s, kx_run_z, kx_in, kx_beq, decide_true, decide_false, cond_true, cond_false, t_push, t_il, t_ll, t_al, t_is, t_ls, t_as, t_inc, t_bin, t_dv, t_lbin, t_lcmp, t_itl, t_dup, t_pop, t_dupx, t_go, t_gk, cutL, t_if, t_ic, t_nul, t_acmp, t_gI, t_gR, t_pI, t_pZ, t_pR, t_new, t_nwa, t_ial, t_ias, t_aln, t_cst, t_sln, t_sld, t_iret, t_zret, t_lret, t_aret, t_vret, t_no, t_call, t_fun, t_sw, sw_to0, t_oin, t_mm, t_qal, t_qas, t_qln, t_nwq, t_gcl, t_acp, lk, up1, cl1, up2, cl2, kx_c2_i, kx_c2_r, kx_c2_n, kx_c2_l, kx_c2_v, lv_args, kx_sum, kx_isr_r, kx_isr_n, kx_isr_v, kx_ex_r, kx_ex_n, kx_ex_v, kx_ex2_r, kx_ex2_n, kx_ex2_v, va_rf_s, va_rf_n, Value.ref.injEq, reduceCtorEq, exists_eq_left', exists_eq_left, exists_eq', exists_eq, true_and, and_true, false_and, and_false, List.length_cons, List.length_nil, List.take_succ_cons, List.take_zero, List.drop_succ_cons, List.drop_zero, List.reverse_cons, List.reverse_nil, List.nil_append, List.cons_append, List.append_nil, List.getElem?_cons_zero, List.getElem?_cons_succ, List.map_cons, List.map_nil, List.sum_cons, List.sum_nil, kx_cat_i, kx_cat_r, kx_cat_n, kx_cat_l, kx_cat_v, Nat.reduceAdd, Nat.reduceSub, Nat.reduceEqDiff, Nat.reduceLeDiff, Nat.reduceMul, Nat.reduceLT, Nat.add_zero, Nat.zero_add, Nat.sub_zero, Nat.sub_self, Nat.le_refl, Nat.zero_le, ↓reduceIte, not_true_eq_false, not_false_eq_true, or_true, true_or, or_false, false_or, Option.some.injEq, ne_eq, implies_true, forall_const, forall_eq', forall_eq, and_self, or_self, Bool.or_true, Bool.or_false, Bool.true_or, Bool.false_or, Bool.and_true, Bool.and_false, Bool.true_and, Bool.false_and, Option.toList_some, Option.toList_none, Nat.succ_ne_zero, false_implies, true_implies, kx_l0, kd_sI, kd_sR, kd_sA, kd_sL, fI_sI_eq, fI_sI_ne, fR_sI, aI_sI, mL_sI, ln_sI, fR_sR_eq, fR_sR_ne, fI_sR, aI_sR, mL_sR, ln_sR, fI_sA, fR_sA, mL_sA, ln_sA, fI_sL, fR_sL, aI_sL, ln_sL, Int32.reduceLT, Int32.reduceLE, z_01, z_02, z_12, kx_10, z_20, z_21, lo_L_isClocked_0, lo_L_isClocked_1, lo_L_isClocked_2, lo_L_isClocked_5, lo_L_isClocked_6, lo_L_isClocked_7, lo_L_isClocked_8, lo_L_isClocked_11, lo_L_isClocked_12, lo_L_isClocked_13, lo_L_isClocked_14, lo_L_isClocked_15, lo_L_isClocked_18, lo_L_isClocked_19, lo_L_isClocked_20, lo_L_isClocked_21, lo_L_isClocked_23, lo_L_isClocked_26, lo_L_isClocked_28, lo_L_isClocked_29, lo_L_isClocked_31, lo_L_isClocked_34, lo_L_isClocked_36, lo_L_isClocked_37, lo_L_isClocked_40, lo_L_isClocked_42, lo_L_isClocked_43, lo_L_isClocked_44, lo_L_isClocked_45, lo_L_isClocked_48, lo_L_isClocked_49, lo_L_isClocked_51, lo_L_isClocked_52, lo_L_isClocked_55, lo_L_isClocked_56, lo_L_isClocked_57, lo_L_isClocked_59, lo_L_isClocked_62, lo_L_isClocked_64, lo_L_isClocked_65, lo_L_isClocked_68, lo_L_isClocked_69, lo_L_isClocked_72, lo_L_isClocked_73, lo_L_isClocked_76, lo_L_isClocked_77, lo_L_isClocked_78, lo_L_isClocked_81, lo_L_isClocked_82, lo_L_isClocked_85, lo_L_isClocked_86, lo_L_isClocked_88, lo_L_isClocked_91, lo_L_isClocked_93, lo_L_isClocked_96, lo_L_isClocked_97, lo_L_isClocked_100, lo_L_isClocked_101, lo_L_isClocked_103, lo_L_isClocked_106, lo_L_isClocked_107, lo_L_isClocked_110, lo_L_isClocked_111, lo_L_isClocked_114, lo_L_isClocked_115, lo_L_isClocked_116, lo_L_isClocked_117, lo_L_isClocked_119, lo_L_isClocked_120, lo_L_isClocked_122, lo_L_isClocked_124, lo_L_isClocked_125, lo_L_isClocked_127, lo_L_isClocked_130, lo_L_isClocked_132, lo_L_isClocked_133, lo_L_isClocked_136, lo_L_isClocked_138, lo_L_isClocked_140, lo_L_isClocked_143, lo_L_isClocked_144, lo_L_isClocked_146, lo_L_isClocked_147, lo_L_isClocked_150, lo_L_isClocked_151, lo_L_isClocked_154, lo_L_isClocked_155, lo_L_isClocked_157, lo_L_isClocked_158, lo_L_isClocked_161, lo_L_isClocked_163, lo_L_isClocked_166, lo_L_isClocked_167, lo_L_isClocked_169, lo_L_isClocked_170, lo_L_isClocked_173, lo_L_isClocked_175, lo_L_isClocked_178, lo_L_isClocked_179, lo_L_isClocked_181, lo_L_isClocked_182, lo_L_isClocked_185, lo_L_isClocked_186, lo_L_isClocked_187, lo_L_isClocked_190, lo_L_isClocked_193, lo_L_isClocked_194, lo_L_isClocked_195, lo_L_isClocked_197, lo_L_isClocked_198, lo_L_isClocked_200, lo_L_isClocked_201, lo_L_isClocked_204, lo_L_isClocked_205, lo_L_isClocked_207, lo_L_isClocked_210, lo_L_isClocked_213, lo_L_isClocked_215, lo_L_isClocked_217, lo_L_isClocked_220, lo_L_isClocked_221, lo_L_isClocked_224, lo_L_isClocked_225, f2_X9_row, f2_X9_ofLot, f2_X9_many, f2_X9_sale, kN, hhN, b7N, b0N, f_e, c1, c2, z1', z2, r7, r160, vSal_0, vSal_2, vSal_3, vSal_4, e120, p5, p6, p7, e210, j1', j2']
      exact hn
  by_cases hE : Es = []
  · subst hE
    have lz : lf [] = 0 := rfl
    have f0 : iv sold = 0 := by rw [ivs, lz]
    have g0 : (fI N 129 t = 0) = True := eq_true (hst.resolve_right (fun w => by omega)).1
    have v129 : fI N 129 t = 0 := (hst.resolve_right (fun w => by omega)).1
    have f_b : (sold = fI M 125 t) = False := eq_false (fun z => by rw [z] at f0; omega)
    have f_f : (sold ≤ 0) = True := eq_true (iv_le.mpr (by rw [f0, iv_0]; exact Int.le_refl 0))
    have f_g : (nI (mL N (A 206)).length ≤ nI (mL M (A 206)).length) = True := eq_true (nI_le (by rw [hra]; exact Nat.le_refl _) (by omega))
    have hn := loop [] [] rfl
    refine kx_run_ok hG (kx_in [40, 122]) 60 _ _ _ _ _ _ ?_
    simp only [kx_run_s, kx_run_z, kx_in, kx_beq, decide_true, decide_false, cond_true, cond_false, t_push, t_il, t_ll, t_al, t_is, t_ls, t_as, t_inc, t_bin, t_dv, t_lbin, t_lcmp, t_itl, t_dup, t_pop, t_dupx, t_go, t_gk, cutL, t_if, t_ic, t_nul, t_acmp, t_gI, t_gR, t_pI, t_pZ, t_pR, t_new, t_nwa, t_ial, t_ias, t_aln, t_cst, t_sln, t_sld, t_iret, t_zret, t_lret, t_aret, t_vret, t_no, t_call, t_fun, t_sw, sw_to0, t_oin, t_mm, t_qal, t_qas, t_qln, t_nwq, t_gcl, t_acp, lk, up1, cl1, up2, cl2, kx_c2_i, kx_c2_r, kx_c2_n, kx_c2_l, kx_c2_v, lv_args, kx_sum, kx_isr_r, kx_isr_n, kx_isr_v, kx_ex_r, kx_ex_n, kx_ex_v, kx_ex2_r, kx_ex2_n, kx_ex2_v, va_rf_s, va_rf_n, Value.ref.injEq, reduceCtorEq, exists_eq_left', exists_eq_left, exists_eq', exists_eq, true_and, and_true, false_and, and_false, List.length_cons, List.length_nil, List.take_succ_cons, List.take_zero, List.drop_succ_cons, List.drop_zero, List.reverse_cons, List.reverse_nil, List.nil_append, List.cons_append, List.append_nil, List.getElem?_cons_zero, List.getElem?_cons_succ, List.map_cons, List.map_nil, List.sum_cons, List.sum_nil, kx_cat_i, kx_cat_r, kx_cat_n, kx_cat_l, kx_cat_v, Nat.reduceAdd, Nat.reduceSub, Nat.reduceEqDiff, Nat.reduceLeDiff, Nat.reduceMul, Nat.reduceLT, Nat.add_zero, Nat.zero_add, Nat.sub_zero, Nat.sub_self, Nat.le_refl, Nat.zero_le, ↓reduceIte, not_true_eq_false, not_false_eq_true, or_true, true_or, or_false, false_or, Option.some.injEq, ne_eq, implies_true, forall_const, forall_eq', forall_eq, and_self, or_self, Bool.or_true, Bool.or_false, Bool.true_or, Bool.false_or, Bool.and_true, Bool.and_false, Bool.true_and, Bool.false_and, Option.toList_some, Option.toList_none, Nat.succ_ne_zero, false_implies, true_implies, kx_l0, kd_sI, kd_sR, kd_sA, kd_sL, fI_sI_eq, fI_sI_ne, fR_sI, aI_sI, mL_sI, ln_sI, fR_sR_eq, fR_sR_ne, fI_sR, aI_sR, mL_sR, ln_sR, fI_sA, fR_sA, mL_sA, ln_sA, fI_sL, fR_sL, aI_sL, ln_sL, Int32.reduceLT, Int32.reduceLE, z_01, z_02, z_12, kx_10, z_20, z_21, lo_L_isClocked_0, lo_L_isClocked_1, lo_L_isClocked_2, lo_L_isClocked_5, lo_L_isClocked_6, lo_L_isClocked_7, lo_L_isClocked_8, lo_L_isClocked_11, lo_L_isClocked_12, lo_L_isClocked_13, lo_L_isClocked_14, lo_L_isClocked_15, lo_L_isClocked_18, lo_L_isClocked_19, lo_L_isClocked_20, lo_L_isClocked_21, lo_L_isClocked_23, lo_L_isClocked_26, lo_L_isClocked_28, lo_L_isClocked_29, lo_L_isClocked_31, lo_L_isClocked_34, lo_L_isClocked_36, lo_L_isClocked_37, lo_L_isClocked_40, lo_L_isClocked_42, lo_L_isClocked_43, lo_L_isClocked_44, lo_L_isClocked_45, lo_L_isClocked_48, lo_L_isClocked_49, lo_L_isClocked_51, lo_L_isClocked_52, lo_L_isClocked_55, lo_L_isClocked_56, lo_L_isClocked_57, lo_L_isClocked_59, lo_L_isClocked_62, lo_L_isClocked_64, lo_L_isClocked_65, lo_L_isClocked_68, lo_L_isClocked_69, lo_L_isClocked_72, lo_L_isClocked_73, lo_L_isClocked_76, lo_L_isClocked_77, lo_L_isClocked_78, lo_L_isClocked_81, lo_L_isClocked_82, lo_L_isClocked_85, lo_L_isClocked_86, lo_L_isClocked_88, lo_L_isClocked_91, lo_L_isClocked_93, lo_L_isClocked_96, lo_L_isClocked_97, lo_L_isClocked_100, lo_L_isClocked_101, lo_L_isClocked_103, lo_L_isClocked_106, lo_L_isClocked_107, lo_L_isClocked_110, lo_L_isClocked_111, lo_L_isClocked_114, lo_L_isClocked_115, lo_L_isClocked_116, lo_L_isClocked_117, lo_L_isClocked_119, lo_L_isClocked_120, lo_L_isClocked_122, lo_L_isClocked_124, lo_L_isClocked_125, lo_L_isClocked_127, lo_L_isClocked_130, lo_L_isClocked_132, lo_L_isClocked_133, lo_L_isClocked_136, lo_L_isClocked_138, lo_L_isClocked_140, lo_L_isClocked_143, lo_L_isClocked_144, lo_L_isClocked_146, lo_L_isClocked_147, lo_L_isClocked_150, lo_L_isClocked_151, lo_L_isClocked_154, lo_L_isClocked_155, lo_L_isClocked_157, lo_L_isClocked_158, lo_L_isClocked_161, lo_L_isClocked_163, lo_L_isClocked_166, lo_L_isClocked_167, lo_L_isClocked_169, lo_L_isClocked_170, lo_L_isClocked_173, lo_L_isClocked_175, lo_L_isClocked_178, lo_L_isClocked_179, lo_L_isClocked_181, lo_L_isClocked_182, lo_L_isClocked_185, lo_L_isClocked_186, lo_L_isClocked_187, lo_L_isClocked_190, lo_L_isClocked_193, lo_L_isClocked_194, lo_L_isClocked_195, lo_L_isClocked_197, lo_L_isClocked_198, lo_L_isClocked_200, lo_L_isClocked_201, lo_L_isClocked_204, lo_L_isClocked_205, lo_L_isClocked_207, lo_L_isClocked_210, lo_L_isClocked_213, lo_L_isClocked_215, lo_L_isClocked_217, lo_L_isClocked_220, lo_L_isClocked_221, lo_L_isClocked_224, lo_L_isClocked_225, f2_X9_row, f2_X9_ofLot, f2_X9_many, f2_X9_sale, kN, d1', d2, vLot_2, vLot_7, v129, hsold, f_a, f_b, f_f, f_g, rowc, qN, hhN, b7N]
    exact hn
  · have hp1 := lf1 hE
    have f_f : (sold ≤ 0) = False := eq_false (fun z => by
      have := iv_le.mp z
      rw [iv_0] at this
      omega)
    have hpos : 1 ≤ Es.length := by
      cases Es with
      | nil => exact absurd rfl hE
      | cons e l => exact Nat.le_add_left 1 l.length
    have f_g : (nI (mL N (A 206)).length ≤ nI (mL M (A 206)).length) = False := eq_false (fun z => nI_ge (a := (mL M (A 206)).length) (b := (mL N (A 206)).length) (by omega) (by omega) z)
    have hn := loop Es [] rfl
    rcases hst with ⟨v129, hge⟩ | ⟨v129, hz⟩
    · have f_b : (sold = fI M 125 t) = False := eq_false (fun z => by
        have : iv sold = iv (fI M 125 t) := by rw [z]
        omega)
      refine kx_run_ok hG (kx_in [40, 122]) 60 _ _ _ _ _ _ ?_
      simp only [kx_run_s, kx_run_z, kx_in, kx_beq, decide_true, decide_false, cond_true, cond_false, t_push, t_il, t_ll, t_al, t_is, t_ls, t_as, t_inc, t_bin, t_dv, t_lbin, t_lcmp, t_itl, t_dup, t_pop, t_dupx, t_go, t_gk, cutL, t_if, t_ic, t_nul, t_acmp, t_gI, t_gR, t_pI, t_pZ, t_pR, t_new, t_nwa, t_ial, t_ias, t_aln, t_cst, t_sln, t_sld, t_iret, t_zret, t_lret, t_aret, t_vret, t_no, t_call, t_fun, t_sw, sw_to0, t_oin, t_mm, t_qal, t_qas, t_qln, t_nwq, t_gcl, t_acp, lk, up1, cl1, up2, cl2, kx_c2_i, kx_c2_r, kx_c2_n, kx_c2_l, kx_c2_v, lv_args, kx_sum, kx_isr_r, kx_isr_n, kx_isr_v, kx_ex_r, kx_ex_n, kx_ex_v, kx_ex2_r, kx_ex2_n, kx_ex2_v, va_rf_s, va_rf_n, Value.ref.injEq, reduceCtorEq, exists_eq_left', exists_eq_left, exists_eq', exists_eq, true_and, and_true, false_and, and_false, List.length_cons, List.length_nil, List.take_succ_cons, List.take_zero, List.drop_succ_cons, List.drop_zero, List.reverse_cons, List.reverse_nil, List.nil_append, List.cons_append, List.append_nil, List.getElem?_cons_zero, List.getElem?_cons_succ, List.map_cons, List.map_nil, List.sum_cons, List.sum_nil, kx_cat_i, kx_cat_r, kx_cat_n, kx_cat_l, kx_cat_v, Nat.reduceAdd, Nat.reduceSub, Nat.reduceEqDiff, Nat.reduceLeDiff, Nat.reduceMul, Nat.reduceLT, Nat.add_zero, Nat.zero_add, Nat.sub_zero, Nat.sub_self, Nat.le_refl, Nat.zero_le, ↓reduceIte, not_true_eq_false, not_false_eq_true, or_true, true_or, or_false, false_or, Option.some.injEq, ne_eq, implies_true, forall_const, forall_eq', forall_eq, and_self, or_self, Bool.or_true, Bool.or_false, Bool.true_or, Bool.false_or, Bool.and_true, Bool.and_false, Bool.true_and, Bool.false_and, Option.toList_some, Option.toList_none, Nat.succ_ne_zero, false_implies, true_implies, kx_l0, kd_sI, kd_sR, kd_sA, kd_sL, fI_sI_eq, fI_sI_ne, fR_sI, aI_sI, mL_sI, ln_sI, fR_sR_eq, fR_sR_ne, fI_sR, aI_sR, mL_sR, ln_sR, fI_sA, fR_sA, mL_sA, ln_sA, fI_sL, fR_sL, aI_sL, ln_sL, Int32.reduceLT, Int32.reduceLE, z_01, z_02, z_12, kx_10, z_20, z_21, lo_L_isClocked_0, lo_L_isClocked_1, lo_L_isClocked_2, lo_L_isClocked_5, lo_L_isClocked_6, lo_L_isClocked_7, lo_L_isClocked_8, lo_L_isClocked_11, lo_L_isClocked_12, lo_L_isClocked_13, lo_L_isClocked_14, lo_L_isClocked_15, lo_L_isClocked_18, lo_L_isClocked_19, lo_L_isClocked_20, lo_L_isClocked_21, lo_L_isClocked_23, lo_L_isClocked_26, lo_L_isClocked_28, lo_L_isClocked_29, lo_L_isClocked_31, lo_L_isClocked_34, lo_L_isClocked_36, lo_L_isClocked_37, lo_L_isClocked_40, lo_L_isClocked_42, lo_L_isClocked_43, lo_L_isClocked_44, lo_L_isClocked_45, lo_L_isClocked_48, lo_L_isClocked_49, lo_L_isClocked_51, lo_L_isClocked_52, lo_L_isClocked_55, lo_L_isClocked_56, lo_L_isClocked_57, lo_L_isClocked_59, lo_L_isClocked_62, lo_L_isClocked_64, lo_L_isClocked_65, lo_L_isClocked_68, lo_L_isClocked_69, lo_L_isClocked_72, lo_L_isClocked_73, lo_L_isClocked_76, lo_L_isClocked_77, lo_L_isClocked_78, lo_L_isClocked_81, lo_L_isClocked_82, lo_L_isClocked_85, lo_L_isClocked_86, lo_L_isClocked_88, lo_L_isClocked_91, lo_L_isClocked_93, lo_L_isClocked_96, lo_L_isClocked_97, lo_L_isClocked_100, lo_L_isClocked_101, lo_L_isClocked_103, lo_L_isClocked_106, lo_L_isClocked_107, lo_L_isClocked_110, lo_L_isClocked_111, lo_L_isClocked_114, lo_L_isClocked_115, lo_L_isClocked_116, lo_L_isClocked_117, lo_L_isClocked_119, lo_L_isClocked_120, lo_L_isClocked_122, lo_L_isClocked_124, lo_L_isClocked_125, lo_L_isClocked_127, lo_L_isClocked_130, lo_L_isClocked_132, lo_L_isClocked_133, lo_L_isClocked_136, lo_L_isClocked_138, lo_L_isClocked_140, lo_L_isClocked_143, lo_L_isClocked_144, lo_L_isClocked_146, lo_L_isClocked_147, lo_L_isClocked_150, lo_L_isClocked_151, lo_L_isClocked_154, lo_L_isClocked_155, lo_L_isClocked_157, lo_L_isClocked_158, lo_L_isClocked_161, lo_L_isClocked_163, lo_L_isClocked_166, lo_L_isClocked_167, lo_L_isClocked_169, lo_L_isClocked_170, lo_L_isClocked_173, lo_L_isClocked_175, lo_L_isClocked_178, lo_L_isClocked_179, lo_L_isClocked_181, lo_L_isClocked_182, lo_L_isClocked_185, lo_L_isClocked_186, lo_L_isClocked_187, lo_L_isClocked_190, lo_L_isClocked_193, lo_L_isClocked_194, lo_L_isClocked_195, lo_L_isClocked_197, lo_L_isClocked_198, lo_L_isClocked_200, lo_L_isClocked_201, lo_L_isClocked_204, lo_L_isClocked_205, lo_L_isClocked_207, lo_L_isClocked_210, lo_L_isClocked_213, lo_L_isClocked_215, lo_L_isClocked_217, lo_L_isClocked_220, lo_L_isClocked_221, lo_L_isClocked_224, lo_L_isClocked_225, f2_X9_row, f2_X9_ofLot, f2_X9_many, f2_X9_sale, kN, d1', d2, vLot_2, vLot_7, v129, hsold, f_a, f_b, f_f, f_g, rowc, qN, hhN, b7N]
      exact hn
    · have f_b : (sold = fI M 125 t) = True := eq_true (by rw [iv_eq]; omega)
      refine kx_run_ok hG (kx_in [40, 122]) 60 _ _ _ _ _ _ ?_
      simp only [kx_run_s, kx_run_z, kx_in, kx_beq, decide_true, decide_false, cond_true, cond_false, t_push, t_il, t_ll, t_al, t_is, t_ls, t_as, t_inc, t_bin, t_dv, t_lbin, t_lcmp, t_itl, t_dup, t_pop, t_dupx, t_go, t_gk, cutL, t_if, t_ic, t_nul, t_acmp, t_gI, t_gR, t_pI, t_pZ, t_pR, t_new, t_nwa, t_ial, t_ias, t_aln, t_cst, t_sln, t_sld, t_iret, t_zret, t_lret, t_aret, t_vret, t_no, t_call, t_fun, t_sw, sw_to0, t_oin, t_mm, t_qal, t_qas, t_qln, t_nwq, t_gcl, t_acp, lk, up1, cl1, up2, cl2, kx_c2_i, kx_c2_r, kx_c2_n, kx_c2_l, kx_c2_v, lv_args, kx_sum, kx_isr_r, kx_isr_n, kx_isr_v, kx_ex_r, kx_ex_n, kx_ex_v, kx_ex2_r, kx_ex2_n, kx_ex2_v, va_rf_s, va_rf_n, Value.ref.injEq, reduceCtorEq, exists_eq_left', exists_eq_left, exists_eq', exists_eq, true_and, and_true, false_and, and_false, List.length_cons, List.length_nil, List.take_succ_cons, List.take_zero, List.drop_succ_cons, List.drop_zero, List.reverse_cons, List.reverse_nil, List.nil_append, List.cons_append, List.append_nil, List.getElem?_cons_zero, List.getElem?_cons_succ, List.map_cons, List.map_nil, List.sum_cons, List.sum_nil, kx_cat_i, kx_cat_r, kx_cat_n, kx_cat_l, kx_cat_v, Nat.reduceAdd, Nat.reduceSub, Nat.reduceEqDiff, Nat.reduceLeDiff, Nat.reduceMul, Nat.reduceLT, Nat.add_zero, Nat.zero_add, Nat.sub_zero, Nat.sub_self, Nat.le_refl, Nat.zero_le, ↓reduceIte, not_true_eq_false, not_false_eq_true, or_true, true_or, or_false, false_or, Option.some.injEq, ne_eq, implies_true, forall_const, forall_eq', forall_eq, and_self, or_self, Bool.or_true, Bool.or_false, Bool.true_or, Bool.false_or, Bool.and_true, Bool.and_false, Bool.true_and, Bool.false_and, Option.toList_some, Option.toList_none, Nat.succ_ne_zero, false_implies, true_implies, kx_l0, kd_sI, kd_sR, kd_sA, kd_sL, fI_sI_eq, fI_sI_ne, fR_sI, aI_sI, mL_sI, ln_sI, fR_sR_eq, fR_sR_ne, fI_sR, aI_sR, mL_sR, ln_sR, fI_sA, fR_sA, mL_sA, ln_sA, fI_sL, fR_sL, aI_sL, ln_sL, Int32.reduceLT, Int32.reduceLE, z_01, z_02, z_12, kx_10, z_20, z_21, lo_L_isClocked_0, lo_L_isClocked_1, lo_L_isClocked_2, lo_L_isClocked_5, lo_L_isClocked_6, lo_L_isClocked_7, lo_L_isClocked_8, lo_L_isClocked_11, lo_L_isClocked_12, lo_L_isClocked_13, lo_L_isClocked_14, lo_L_isClocked_15, lo_L_isClocked_18, lo_L_isClocked_19, lo_L_isClocked_20, lo_L_isClocked_21, lo_L_isClocked_23, lo_L_isClocked_26, lo_L_isClocked_28, lo_L_isClocked_29, lo_L_isClocked_31, lo_L_isClocked_34, lo_L_isClocked_36, lo_L_isClocked_37, lo_L_isClocked_40, lo_L_isClocked_42, lo_L_isClocked_43, lo_L_isClocked_44, lo_L_isClocked_45, lo_L_isClocked_48, lo_L_isClocked_49, lo_L_isClocked_51, lo_L_isClocked_52, lo_L_isClocked_55, lo_L_isClocked_56, lo_L_isClocked_57, lo_L_isClocked_59, lo_L_isClocked_62, lo_L_isClocked_64, lo_L_isClocked_65, lo_L_isClocked_68, lo_L_isClocked_69, lo_L_isClocked_72, lo_L_isClocked_73, lo_L_isClocked_76, lo_L_isClocked_77, lo_L_isClocked_78, lo_L_isClocked_81, lo_L_isClocked_82, lo_L_isClocked_85, lo_L_isClocked_86, lo_L_isClocked_88, lo_L_isClocked_91, lo_L_isClocked_93, lo_L_isClocked_96, lo_L_isClocked_97, lo_L_isClocked_100, lo_L_isClocked_101, lo_L_isClocked_103, lo_L_isClocked_106, lo_L_isClocked_107, lo_L_isClocked_110, lo_L_isClocked_111, lo_L_isClocked_114, lo_L_isClocked_115, lo_L_isClocked_116, lo_L_isClocked_117, lo_L_isClocked_119, lo_L_isClocked_120, lo_L_isClocked_122, lo_L_isClocked_124, lo_L_isClocked_125, lo_L_isClocked_127, lo_L_isClocked_130, lo_L_isClocked_132, lo_L_isClocked_133, lo_L_isClocked_136, lo_L_isClocked_138, lo_L_isClocked_140, lo_L_isClocked_143, lo_L_isClocked_144, lo_L_isClocked_146, lo_L_isClocked_147, lo_L_isClocked_150, lo_L_isClocked_151, lo_L_isClocked_154, lo_L_isClocked_155, lo_L_isClocked_157, lo_L_isClocked_158, lo_L_isClocked_161, lo_L_isClocked_163, lo_L_isClocked_166, lo_L_isClocked_167, lo_L_isClocked_169, lo_L_isClocked_170, lo_L_isClocked_173, lo_L_isClocked_175, lo_L_isClocked_178, lo_L_isClocked_179, lo_L_isClocked_181, lo_L_isClocked_182, lo_L_isClocked_185, lo_L_isClocked_186, lo_L_isClocked_187, lo_L_isClocked_190, lo_L_isClocked_193, lo_L_isClocked_194, lo_L_isClocked_195, lo_L_isClocked_197, lo_L_isClocked_198, lo_L_isClocked_200, lo_L_isClocked_201, lo_L_isClocked_204, lo_L_isClocked_205, lo_L_isClocked_207, lo_L_isClocked_210, lo_L_isClocked_213, lo_L_isClocked_215, lo_L_isClocked_217, lo_L_isClocked_220, lo_L_isClocked_221, lo_L_isClocked_224, lo_L_isClocked_225, f2_X9_row, f2_X9_ofLot, f2_X9_many, f2_X9_sale, kN, d1', d2, vLot_2, vLot_7, v129, hsold, f_a, f_b, f_f, f_g, rowc, qN, hhN, b7N]
      exact hn
end LC
