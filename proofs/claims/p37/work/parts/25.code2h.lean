abbrev c2t_X9_wouldFetch (E : kx_E) (av : List Value) (M : kx_M) (k ks : Nat) (Q : kx_Q) : Prop := kx_CT E (kx_w2 E) yX9_wouldFetch wsX9_wouldFetch 6 135 av M k ks Q
def cd_X9_wouldFetch (E : kx_E) : List (Nat × kx_T) := [
  (0, t_al 1 0),
  (1, t_al 2 0),
  (2, t_il 3 1),
  (3, t_fun (f2_X9_lotAt E) 0 0 6 2),
  (6, t_fun (f2_X9_firstPriceOf E) 0 0 9 2),
  (9, t_iret)]
set_option maxRecDepth 4000 in
theorem en_X9_wouldFetch (E : kx_E) {av : List Value} {M : kx_M} {k ks : Nat} {Qr : kx_Q} (hlen : (lg_sl av).length ≤ 2) (h : ∀ G : kx_K, kx_all G Qr (cd_X9_wouldFetch E) → G k ks 0 (lv_args 0 av) [] M) : c2t_X9_wouldFetch E av M k ks Qr := by
  refine kx_enter (by decide) rfl hlen (own := RX9) rfl (cd := cd_X9_wouldFetch E) ?_ h
  intro p e s m below meth c C hr hl hnm
  exact ⟨ok_aload_n C dX9_wouldFetch_0 rfl,
    ok_aload_n C dX9_wouldFetch_1 rfl,
    ok_iload_n C dX9_wouldFetch_2 rfl,
    ok_fun (ok_callV C (kx_w2_rcv E) (ci := 10) (Cn := RX9) (T := TX9) (N := 18) rfl (n := 1) gX9_wouldFetch_X9_lotAt rfl (by decide +kernel) ⟨Nat.le_of_ble_eq_true rfl, Nat.le_of_ble_eq_true rfl⟩ dX9_wouldFetch_3) (fun av M h => f2_X9_lotAt_ok E h) (Or.inr (fun av M h => f2_X9_lotAt_rc E h)),
    ok_fun (ok_callV C (kx_w2_rcv E) (ci := 10) (Cn := RX9) (T := TX9) (N := 18) rfl (n := 1) gX9_wouldFetch_X9_firstPriceOf rfl (by decide +kernel) ⟨Nat.le_of_ble_eq_true rfl, Nat.le_of_ble_eq_true rfl⟩ dX9_wouldFetch_6) (fun av M h => f2_X9_firstPriceOf_ok E h) (Or.inr (fun av M h => f2_X9_firstPriceOf_rc E h)),
    ok_iret C hr hl dX9_wouldFetch_9, trivial⟩

abbrev c2t_X9_bestMinimum (E : kx_E) (av : List Value) (M : kx_M) (k ks : Nat) (Q : kx_Q) : Prop := kx_CT E (kx_w2 E) yX9_bestMinimum wsX9_bestMinimum 6 137 av M k ks Q
def cd_X9_bestMinimum (E : kx_E) : List (Nat × kx_T) := [
  (0, t_al 1 0),
  (1, t_al 2 0),
  (2, t_il 3 1),
  (3, t_fun (f2_X9_lotAt E) 0 0 6 2),
  (6, t_fun (f2_X9_lowestPriceOf E) 0 0 9 2),
  (9, t_iret)]
set_option maxRecDepth 4000 in
theorem en_X9_bestMinimum (E : kx_E) {av : List Value} {M : kx_M} {k ks : Nat} {Qr : kx_Q} (hlen : (lg_sl av).length ≤ 2) (h : ∀ G : kx_K, kx_all G Qr (cd_X9_bestMinimum E) → G k ks 0 (lv_args 0 av) [] M) : c2t_X9_bestMinimum E av M k ks Qr := by
  refine kx_enter (by decide) rfl hlen (own := RX9) rfl (cd := cd_X9_bestMinimum E) ?_ h
  intro p e s m below meth c C hr hl hnm
  exact ⟨ok_aload_n C dX9_bestMinimum_0 rfl,
    ok_aload_n C dX9_bestMinimum_1 rfl,
    ok_iload_n C dX9_bestMinimum_2 rfl,
    ok_fun (ok_callV C (kx_w2_rcv E) (ci := 10) (Cn := RX9) (T := TX9) (N := 18) rfl (n := 1) gX9_bestMinimum_X9_lotAt rfl (by decide +kernel) ⟨Nat.le_of_ble_eq_true rfl, Nat.le_of_ble_eq_true rfl⟩ dX9_bestMinimum_3) (fun av M h => f2_X9_lotAt_ok E h) (Or.inr (fun av M h => f2_X9_lotAt_rc E h)),
    ok_fun (ok_callV C (kx_w2_rcv E) (ci := 10) (Cn := RX9) (T := TX9) (N := 18) rfl (n := 1) gX9_bestMinimum_X9_lowestPriceOf rfl (by decide +kernel) ⟨Nat.le_of_ble_eq_true rfl, Nat.le_of_ble_eq_true rfl⟩ dX9_bestMinimum_6) (fun av M h => f2_X9_lowestPriceOf_ok E h) (Or.inr (fun av M h => f2_X9_lowestPriceOf_rc E h)),
    ok_iret C hr hl dX9_bestMinimum_9, trivial⟩

theorem mX9_leastLifeOnRail_0 : Cond.fieldLink RX9 31 "Bloomclock" "rail" "Ljava/util/ArrayList;" ∈ wsX9_leastLifeOnRail := by decide +kernel
theorem hiX9_leastLifeOnRail_10 : ∀ w ∈ u_ws RX9 TX9 18, w ∈ wsX9_leastLifeOnRail := by decide +kernel
theorem mX9_leastLifeOnRail_2 : Cond.classLink RX9 440 RX8 ∈ wsX9_leastLifeOnRail := by decide +kernel
theorem mX9_leastLifeOnRail_3 : Cond.fieldLink RX9 442 "Bloomclock$Trolley" "life" "I" ∈ wsX9_leastLifeOnRail := by decide +kernel
theorem hiX9_leastLifeOnRail_9 : ∀ w ∈ u_ws RX8 TX8 4, w ∈ wsX9_leastLifeOnRail := by decide +kernel
theorem mX9_leastLifeOnRail_5 : Cond.methodLink RX9 203 Lib.Math.min.name ∈ wsX9_leastLifeOnRail := by decide +kernel
theorem mX9_leastLifeOnRail_6 : Cond.static Lib.Math.min.name ∈ wsX9_leastLifeOnRail := by decide +kernel
theorem mX9_leastLifeOnRail_7 : Cond.initialized "java/lang/Math" ∈ wsX9_leastLifeOnRail := by decide +kernel
theorem mX9_leastLifeOnRail_8 : Cond.code Lib.Math.min.name Lib.Math.min.code 2 (some .int) ∈ wsX9_leastLifeOnRail := by decide +kernel
abbrev c2t_X9_leastLifeOnRail (E : kx_E) (av : List Value) (M : kx_M) (k ks : Nat) (Q : kx_Q) : Prop := kx_CT E (kx_w2 E) yX9_leastLifeOnRail wsX9_leastLifeOnRail 3 64 av M k ks Q
def cd_X9_leastLifeOnRail (E : kx_E) : List (Nat × kx_T) := [
  (0, t_al 1 0),
  (1, t_gR 4 11 206),
  (4, t_fun (f2_Jx4a65c_isEmpty_aae02 E) 0 0 7 1),
  (7, t_if 10 12 (fun x => x = 0)),
  (10, t_push 11 (.int (-1))),
  (11, t_iret),
  (12, t_push 14 (.int 110)),
  (14, t_is 15 1),
  (15, t_push 16 (.int 0)),
  (16, t_is 17 2),
  (17, t_il 18 2),
  (18, t_al 19 0),
  (19, t_gR 22 11 206),
  (22, t_fun (f2_Jx4a65c_size_8abf5 E) 0 0 25 1),
  (25, t_ic 28 53 (fun x y => y ≤ x)),
  (28, t_il 29 1),
  (29, t_al 30 0),
  (30, t_gR 33 11 206),
  (33, t_il 34 2),
  (34, t_fun (f2_Jx4a65c_get_915e3 E) 0 0 37 2),
  (37, t_cst 40 10),
  (40, t_gI 43 10 183),
  (43, t_mm 46 (fun x y => if y < x then y else x)),
  (46, t_is 47 1),
  (47, t_inc 50 2 1),
  (50, t_gk 17 3),
  (53, t_il 54 1),
  (54, t_iret)]
set_option maxRecDepth 4000 in
theorem en_X9_leastLifeOnRail (E : kx_E) {av : List Value} {M : kx_M} {k ks : Nat} {Qr : kx_Q} (hlen : (lg_sl av).length ≤ 3) (h : ∀ G : kx_K, kx_all G Qr (cd_X9_leastLifeOnRail E) → G k ks 0 (lv_args 0 av) [] M) : c2t_X9_leastLifeOnRail E av M k ks Qr := by
  refine kx_enter (by decide) rfl hlen (own := RX9) rfl (cd := cd_X9_leastLifeOnRail E) ?_ h
  intro p e s m below meth c C hr hl hnm
  exact ⟨ok_aload_n C dX9_leastLifeOnRail_0 rfl,
    ok_gR C (ci := 10) (k := 6) (Cn := RX9) (T := TX9) (N := 18) (index := 31) (ref := "Bloomclock") (kx_w2_good E) rfl rfl (by decide) hiX9_leastLifeOnRail_10 mX9_leastLifeOnRail_0 (fun _ h9 => h9) rfl dX9_leastLifeOnRail_1,
    ok_fun (ok_callV C (kx_w2_rcv E) (ci := 0) (Cn := RJx4a65c) (T := TJx4a65c) (N := 3) rfl (n := 0) gX9_leastLifeOnRail_Jx4a65c_isEmpty_aae02 rfl (by decide +kernel) ⟨Nat.le_of_ble_eq_true rfl, Nat.le_of_ble_eq_true rfl⟩ dX9_leastLifeOnRail_4) (fun av M h => f2_Jx4a65c_isEmpty_aae02_ok E h) (Or.inr (fun av M h => f2_Jx4a65c_isEmpty_aae02_rc E h)),
    ok_if_eq C dX9_leastLifeOnRail_7 (by decide),
    ok_iconst C dX9_leastLifeOnRail_10 (by decide),
    ok_iret C hr hl dX9_leastLifeOnRail_11,
    ok_bipush C dX9_leastLifeOnRail_12 (by decide),
    ok_istore_n C dX9_leastLifeOnRail_14 rfl (by decide),
    ok_iconst C dX9_leastLifeOnRail_15 (by decide),
    ok_istore_n C dX9_leastLifeOnRail_16 rfl (by decide),
    ok_iload_n C dX9_leastLifeOnRail_17 rfl,
    ok_aload_n C dX9_leastLifeOnRail_18 rfl,
    ok_gR C (ci := 10) (k := 6) (Cn := RX9) (T := TX9) (N := 18) (index := 31) (ref := "Bloomclock") (kx_w2_good E) rfl rfl (by decide) hiX9_leastLifeOnRail_10 mX9_leastLifeOnRail_0 (fun _ h9 => h9) rfl dX9_leastLifeOnRail_19,
    ok_fun (ok_callV C (kx_w2_rcv E) (ci := 0) (Cn := RJx4a65c) (T := TJx4a65c) (N := 3) rfl (n := 0) gX9_leastLifeOnRail_Jx4a65c_size_8abf5 rfl (by decide +kernel) ⟨Nat.le_of_ble_eq_true rfl, Nat.le_of_ble_eq_true rfl⟩ dX9_leastLifeOnRail_22) (fun av M h => f2_Jx4a65c_size_8abf5_ok E h) (Or.inr (fun av M h => f2_Jx4a65c_size_8abf5_rc E h)),
    ok_ic_ge C dX9_leastLifeOnRail_25 (by decide),
    ok_iload_n C dX9_leastLifeOnRail_28 rfl,
    ok_aload_n C dX9_leastLifeOnRail_29 rfl,
    ok_gR C (ci := 10) (k := 6) (Cn := RX9) (T := TX9) (N := 18) (index := 31) (ref := "Bloomclock") (kx_w2_good E) rfl rfl (by decide) hiX9_leastLifeOnRail_10 mX9_leastLifeOnRail_0 (fun _ h9 => h9) rfl dX9_leastLifeOnRail_30,
    ok_iload_n C dX9_leastLifeOnRail_33 rfl,
    ok_fun (ok_callV C (kx_w2_rcv E) (ci := 0) (Cn := RJx4a65c) (T := TJx4a65c) (N := 3) rfl (n := 1) gX9_leastLifeOnRail_Jx4a65c_get_915e3 rfl (by decide +kernel) ⟨Nat.le_of_ble_eq_true rfl, Nat.le_of_ble_eq_true rfl⟩ dX9_leastLifeOnRail_34) (fun av M h => f2_Jx4a65c_get_915e3_ok E h) (Or.inr (fun av M h => f2_Jx4a65c_get_915e3_rc E h)),
    ok_cst C (ci := 9) (Cn := RX8) (T := TX8) (N := 4) (kx_w2_good E) rfl rfl mX9_leastLifeOnRail_2 dX9_leastLifeOnRail_37,
    ok_gI C (ci := 9) (k := 3) (Cn := RX8) (T := TX8) (N := 4) (index := 442) (ref := "Bloomclock$Trolley") (kx_w2_good E) rfl rfl (by decide) hiX9_leastLifeOnRail_9 mX9_leastLifeOnRail_3 (fun _ h9 => h9) rfl dX9_leastLifeOnRail_40,
    ok_min C mX9_leastLifeOnRail_5 mX9_leastLifeOnRail_6 mX9_leastLifeOnRail_7 mX9_leastLifeOnRail_8 ⟨Nat.le_of_ble_eq_true rfl, Nat.le_of_ble_eq_true rfl⟩ dX9_leastLifeOnRail_43,
    ok_istore_n C dX9_leastLifeOnRail_46 rfl (by decide),
    ok_iinc C dX9_leastLifeOnRail_47 (by decide) (by decide),
    ok_gotoK C dX9_leastLifeOnRail_50 (by decide),
    ok_iload_n C dX9_leastLifeOnRail_53 rfl,
    ok_iret C hr hl dX9_leastLifeOnRail_54, trivial⟩
