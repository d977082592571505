theorem mX9_sell_0 : Cond.static yX9_bucketsFor ∈ wsX9_sell := by decide +kernel
theorem mX9_sell_1 : Cond.methodLink RX9 123 yX9_bucketsFor ∈ wsX9_sell := by decide +kernel
theorem mX9_sell_2 : Cond.initialized RX9 ∈ wsX9_sell := by decide +kernel
theorem mX9_sell_3 : Cond.fieldLink RX9 134 "Bloomclock$Lot" "buckets" "I" ∈ wsX9_sell := by decide +kernel
theorem hiX9_sell_6 : ∀ w ∈ u_ws RX5 TX5 12, w ∈ wsX9_sell := by decide +kernel
theorem mX9_sell_5 : Cond.methodLink RX9 203 Lib.Math.min.name ∈ wsX9_sell := by decide +kernel
theorem mX9_sell_6 : Cond.static Lib.Math.min.name ∈ wsX9_sell := by decide +kernel
theorem mX9_sell_7 : Cond.initialized "java/lang/Math" ∈ wsX9_sell := by decide +kernel
theorem mX9_sell_8 : Cond.code Lib.Math.min.name Lib.Math.min.code 2 (some .int) ∈ wsX9_sell := by decide +kernel
theorem hiX9_sell_8 : ∀ w ∈ u_ws RX7 TX7 7, w ∈ wsX9_sell := by decide +kernel
theorem mX9_sell_10 : Cond.classLink RX9 282 RX7 ∈ wsX9_sell := by decide +kernel
theorem mX9_sell_11 : Cond.instantiable RX7 7 ∈ wsX9_sell := by decide +kernel
theorem mX9_sell_12 : Cond.initialized RX7 ∈ wsX9_sell := by decide +kernel
theorem mX9_sell_13 : Cond.fieldLink RX9 287 "Bloomclock" "hour" "I" ∈ wsX9_sell := by decide +kernel
theorem hiX9_sell_10 : ∀ w ∈ u_ws RX9 TX9 18, w ∈ wsX9_sell := by decide +kernel
theorem mX9_sell_15 : Cond.methodLink RX9 453 yX7_init ∈ wsX9_sell := by decide +kernel
theorem mX9_sell_16 : Cond.instanceMethod yX7_init ∈ wsX9_sell := by decide +kernel
theorem mX9_sell_17 : Cond.fieldLink RX9 174 "Bloomclock$Lot" "stems" "I" ∈ wsX9_sell := by decide +kernel
theorem mX9_sell_18 : Cond.fieldLink RX9 146 "Bloomclock$Lot" "state" "I" ∈ wsX9_sell := by decide +kernel
theorem mX9_sell_19 : Cond.fieldLink RX9 31 "Bloomclock" "rail" "Ljava/util/ArrayList;" ∈ wsX9_sell := by decide +kernel
theorem hiX9_sell_9 : ∀ w ∈ u_ws RX8 TX8 4, w ∈ wsX9_sell := by decide +kernel
theorem mX9_sell_21 : Cond.classLink RX9 440 RX8 ∈ wsX9_sell := by decide +kernel
theorem mX9_sell_22 : Cond.instantiable RX8 4 ∈ wsX9_sell := by decide +kernel
theorem mX9_sell_23 : Cond.initialized RX8 ∈ wsX9_sell := by decide +kernel
theorem mX9_sell_24 : Cond.fieldLink RX9 168 "Bloomclock$Lot" "cultivar" "I" ∈ wsX9_sell := by decide +kernel
theorem mX9_sell_25 : Cond.fieldLink RX9 191 "Bloomclock$Lot" "life" "I" ∈ wsX9_sell := by decide +kernel
theorem mX9_sell_26 : Cond.methodLink RX9 460 yX8_init ∈ wsX9_sell := by decide +kernel
theorem mX9_sell_27 : Cond.instanceMethod yX8_init ∈ wsX9_sell := by decide +kernel
theorem mX9_sell_28 : Cond.fieldLink RX9 34 "Bloomclock" "sales" "Ljava/util/ArrayList;" ∈ wsX9_sell := by decide +kernel
abbrev c2t_X9_sell (E : kx_E) (av : List Value) (M : kx_M) (k ks : Nat) (Q : kx_Q) : Prop := kx_CT E (kx_w2 E) yX9_sell wsX9_sell 7 158 av M k ks Q
def cd_X9_sell (E : kx_E) : List (Nat × kx_T) := [
  (0, t_il 2 4),
  (2, t_fun (f2_X9_bucketsFor E) 0 0 5 1),
  (5, t_al 6 1),
  (6, t_gI 9 7 127),
  (9, t_mm 12 (fun x y => if y < x then y else x)),
  (12, t_is 14 6),
  (14, t_new 17 9 7),
  (17, t_dup 18),
  (18, t_al 19 1),
  (19, t_al 20 2),
  (20, t_al 21 3),
  (21, t_il 23 4),
  (23, t_il 25 5),
  (25, t_al 26 0),
  (26, t_gI 29 11 210),
  (29, t_il 31 6),
  (31, t_fun (f2_X7_init E) 0 0 34 8),
  (34, t_as 36 7),
  (36, t_al 37 0),
  (37, t_al 39 7),
  (39, t_push 40 (.int 1)),
  (40, t_call (c2t_X9_book E) 43 3 11),
  (43, t_al 44 1),
  (44, t_gI 47 7 125),
  (47, t_push 48 (.int 1)),
  (48, t_ic 51 56 (fun x y => y ≤ x)),
  (51, t_al 52 1),
  (52, t_push 53 (.int 2)),
  (53, t_pI 56 7 129),
  (56, t_al 57 0),
  (57, t_gR 60 11 206),
  (60, t_new 63 10 4),
  (63, t_dup 64),
  (64, t_al 65 2),
  (65, t_al 66 1),
  (66, t_gI 69 7 123),
  (69, t_il 71 4),
  (71, t_al 72 1),
  (72, t_gI 75 7 126),
  (75, t_fun (f2_X8_init E) 0 0 78 5),
  (78, t_fun (f2_Jx4a65c_add_9ea2d E) 1 1500 81 2),
  (81, t_pop 82),
  (82, t_al 83 0),
  (83, t_gR 86 11 207),
  (86, t_fun (f2_Jx4a65c_size_8abf5 E) 0 0 89 1),
  (89, t_push 91 (.int 20)),
  (91, t_ic 94 103 (fun x y => x < y)),
  (94, t_al 95 0),
  (95, t_gR 98 11 207),
  (98, t_push 99 (.int 0)),
  (99, t_fun (f2_Jx4a65c_remove_915e3 E) 0 0 102 2),
  (102, t_pop 103),
  (103, t_al 104 0),
  (104, t_gR 107 11 207),
  (107, t_al 109 7),
  (109, t_fun (f2_Jx4a65c_add_9ea2d E) 1 1500 112 2),
  (112, t_pop 113),
  (113, t_vret)]
set_option maxRecDepth 4000 in
theorem en_X9_sell (E : kx_E) {av : List Value} {M : kx_M} {k ks : Nat} {Qr : kx_Q} (hlen : (lg_sl av).length ≤ 8) (h : ∀ G : kx_K, kx_all G Qr (cd_X9_sell E) → G k ks 0 (lv_args 0 av) [] M) : c2t_X9_sell E av M k ks Qr := by
  refine kx_enter (by decide) rfl hlen (own := RX9) rfl (cd := cd_X9_sell E) ?_ h
  intro p e s m below meth c C hr hl hnm
  exact ⟨ok_iload C dX9_sell_0,
    ok_fun (ok_callT C (n := 1) ggX9_sell_X9_bucketsFor mX9_sell_0 mX9_sell_1 mX9_sell_2 rfl (by decide +kernel) ⟨Nat.le_of_ble_eq_true rfl, Nat.le_of_ble_eq_true rfl⟩ dX9_sell_2) (fun av M h => f2_X9_bucketsFor_ok E h) (Or.inl rfl),
    ok_aload_n C dX9_sell_5 rfl,
    ok_gI C (ci := 6) (k := 7) (Cn := RX5) (T := TX5) (N := 12) (index := 134) (ref := "Bloomclock$Lot") (kx_w2_good E) rfl rfl (by decide) hiX9_sell_6 mX9_sell_3 (fun _ h9 => h9) rfl dX9_sell_6,
    ok_min C mX9_sell_5 mX9_sell_6 mX9_sell_7 mX9_sell_8 ⟨Nat.le_of_ble_eq_true rfl, Nat.le_of_ble_eq_true rfl⟩ dX9_sell_9,
    ok_istore C dX9_sell_12 (by decide),
    ok_new C (ci := 8) (Cn := RX7) (T := TX7) (N := 7) (index := 282) (kx_w2_good E) rfl hiX9_sell_8 mX9_sell_10 mX9_sell_11 mX9_sell_12 tyX7 tyX7_ok (by decide +kernel) dX9_sell_14,
    ok_dup C dX9_sell_17,
    ok_aload_n C dX9_sell_18 rfl,
    ok_aload_n C dX9_sell_19 rfl,
    ok_aload_n C dX9_sell_20 rfl,
    ok_iload C dX9_sell_21,
    ok_iload C dX9_sell_23,
    ok_aload_n C dX9_sell_25 rfl,
    ok_gI C (ci := 10) (k := 10) (Cn := RX9) (T := TX9) (N := 18) (index := 287) (ref := "Bloomclock") (kx_w2_good E) rfl rfl (by decide) hiX9_sell_10 mX9_sell_13 (fun _ h9 => h9) rfl dX9_sell_26,
    ok_iload C dX9_sell_29,
    ok_fun (ok_callI C (n := 7) (kv := 9) (by decide) gX9_sell_X7_init rfl mX9_sell_12 mX9_sell_15 mX9_sell_16 rfl (by decide +kernel) ⟨Nat.le_of_ble_eq_true rfl, Nat.le_of_ble_eq_true rfl⟩ dX9_sell_31) (fun av M h => f2_X7_init_ok E h) (Or.inr (fun av M h => f2_X7_init_rc E h)),
    ok_astore C dX9_sell_34 (by decide),
    ok_aload_n C dX9_sell_36 rfl,
    ok_aload C dX9_sell_37,
    ok_iconst C dX9_sell_39 (by decide),
    ok_callV C (kx_w2_rcv E) (ci := 10) (Cn := RX9) (T := TX9) (N := 18) rfl (n := 2) gX9_sell_X9_book rfl (by decide +kernel) ⟨Nat.le_of_ble_eq_true rfl, Nat.le_of_ble_eq_true rfl⟩ dX9_sell_40,
    ok_aload_n C dX9_sell_43 rfl,
    ok_gI C (ci := 6) (k := 5) (Cn := RX5) (T := TX5) (N := 12) (index := 174) (ref := "Bloomclock$Lot") (kx_w2_good E) rfl rfl (by decide) hiX9_sell_6 mX9_sell_17 (fun _ h9 => h9) rfl dX9_sell_44,
    ok_iconst C dX9_sell_47 (by decide),
    ok_ic_ge C dX9_sell_48 (by decide),
    ok_aload_n C dX9_sell_51 rfl,
    ok_iconst C dX9_sell_52 (by decide),
    ok_pI C (ci := 6) (k := 9) (Cn := RX5) (T := TX5) (N := 12) (index := 146) (ref := "Bloomclock$Lot") (kx_w2_good E) rfl rfl (by decide) hiX9_sell_6 mX9_sell_18 (fun _ h9 => h9) tyX5 tyX5_ok nmX5 rfl (by decide +kernel) rfl dX9_sell_53,
    ok_aload_n C dX9_sell_56 rfl,
    ok_gR C (ci := 10) (k := 6) (Cn := RX9) (T := TX9) (N := 18) (index := 31) (ref := "Bloomclock") (kx_w2_good E) rfl rfl (by decide) hiX9_sell_10 mX9_sell_19 (fun _ h9 => h9) rfl dX9_sell_57,
    ok_new C (ci := 9) (Cn := RX8) (T := TX8) (N := 4) (index := 440) (kx_w2_good E) rfl hiX9_sell_9 mX9_sell_21 mX9_sell_22 mX9_sell_23 tyX8 tyX8_ok (by decide +kernel) dX9_sell_60,
    ok_dup C dX9_sell_63,
    ok_aload_n C dX9_sell_64 rfl,
    ok_aload_n C dX9_sell_65 rfl,
    ok_gI C (ci := 6) (k := 3) (Cn := RX5) (T := TX5) (N := 12) (index := 168) (ref := "Bloomclock$Lot") (kx_w2_good E) rfl rfl (by decide) hiX9_sell_6 mX9_sell_24 (fun _ h9 => h9) rfl dX9_sell_66,
    ok_iload C dX9_sell_69,
    ok_aload_n C dX9_sell_71 rfl,
    ok_gI C (ci := 6) (k := 6) (Cn := RX5) (T := TX5) (N := 12) (index := 191) (ref := "Bloomclock$Lot") (kx_w2_good E) rfl rfl (by decide) hiX9_sell_6 mX9_sell_25 (fun _ h9 => h9) rfl dX9_sell_72,
    ok_fun (ok_callI C (n := 4) (kv := 10) (by decide) gX9_sell_X8_init rfl mX9_sell_23 mX9_sell_26 mX9_sell_27 rfl (by decide +kernel) ⟨Nat.le_of_ble_eq_true rfl, Nat.le_of_ble_eq_true rfl⟩ dX9_sell_75) (fun av M h => f2_X8_init_ok E h) (Or.inr (fun av M h => f2_X8_init_rc E h)),
    ok_fun (ok_callV C (kx_w2_rcv E) (ci := 0) (Cn := RJx4a65c) (T := TJx4a65c) (N := 3) rfl (n := 1) gX9_sell_Jx4a65c_add_9ea2d rfl (by decide +kernel) ⟨Nat.le_of_ble_eq_true rfl, Nat.le_of_ble_eq_true rfl⟩ dX9_sell_78) (fun av M h => f2_Jx4a65c_add_9ea2d_ok E h) (Or.inr (fun av M h => f2_Jx4a65c_add_9ea2d_rc E h)),
    ok_pop C dX9_sell_81,
    ok_aload_n C dX9_sell_82 rfl,
    ok_gR C (ci := 10) (k := 7) (Cn := RX9) (T := TX9) (N := 18) (index := 34) (ref := "Bloomclock") (kx_w2_good E) rfl rfl (by decide) hiX9_sell_10 mX9_sell_28 (fun _ h9 => h9) rfl dX9_sell_83,
    ok_fun (ok_callV C (kx_w2_rcv E) (ci := 0) (Cn := RJx4a65c) (T := TJx4a65c) (N := 3) rfl (n := 0) gX9_sell_Jx4a65c_size_8abf5 rfl (by decide +kernel) ⟨Nat.le_of_ble_eq_true rfl, Nat.le_of_ble_eq_true rfl⟩ dX9_sell_86) (fun av M h => f2_Jx4a65c_size_8abf5_ok E h) (Or.inr (fun av M h => f2_Jx4a65c_size_8abf5_rc E h)),
    ok_bipush C dX9_sell_89 (by decide),
    ok_ic_lt C dX9_sell_91 (by decide),
    ok_aload_n C dX9_sell_94 rfl,
    ok_gR C (ci := 10) (k := 7) (Cn := RX9) (T := TX9) (N := 18) (index := 34) (ref := "Bloomclock") (kx_w2_good E) rfl rfl (by decide) hiX9_sell_10 mX9_sell_28 (fun _ h9 => h9) rfl dX9_sell_95,
    ok_iconst C dX9_sell_98 (by decide),
    ok_fun (ok_callV C (kx_w2_rcv E) (ci := 0) (Cn := RJx4a65c) (T := TJx4a65c) (N := 3) rfl (n := 1) gX9_sell_Jx4a65c_remove_915e3 rfl (by decide +kernel) ⟨Nat.le_of_ble_eq_true rfl, Nat.le_of_ble_eq_true rfl⟩ dX9_sell_99) (fun av M h => f2_Jx4a65c_remove_915e3_ok E h) (Or.inr (fun av M h => f2_Jx4a65c_remove_915e3_rc E h)),
    ok_pop C dX9_sell_102,
    ok_aload_n C dX9_sell_103 rfl,
    ok_gR C (ci := 10) (k := 7) (Cn := RX9) (T := TX9) (N := 18) (index := 34) (ref := "Bloomclock") (kx_w2_good E) rfl rfl (by decide) hiX9_sell_10 mX9_sell_28 (fun _ h9 => h9) rfl dX9_sell_104,
    ok_aload C dX9_sell_107,
    ok_fun (ok_callV C (kx_w2_rcv E) (ci := 0) (Cn := RJx4a65c) (T := TJx4a65c) (N := 3) rfl (n := 1) gX9_sell_Jx4a65c_add_9ea2d rfl (by decide +kernel) ⟨Nat.le_of_ble_eq_true rfl, Nat.le_of_ble_eq_true rfl⟩ dX9_sell_109) (fun av M h => f2_Jx4a65c_add_9ea2d_ok E h) (Or.inr (fun av M h => f2_Jx4a65c_add_9ea2d_rc E h)),
    ok_pop C dX9_sell_112,
    ok_vret C hr hl dX9_sell_113, trivial⟩

theorem mX9_takeBack_0 : Cond.fieldLink RX9 288 "Bloomclock$Sale" "lot" "LBloomclock$Lot;" ∈ wsX9_takeBack := by decide +kernel
theorem hiX9_takeBack_8 : ∀ w ∈ u_ws RX7 TX7 7, w ∈ wsX9_takeBack := by decide +kernel
theorem mX9_takeBack_2 : Cond.fieldLink RX9 146 "Bloomclock$Lot" "state" "I" ∈ wsX9_takeBack := by decide +kernel
theorem hiX9_takeBack_6 : ∀ w ∈ u_ws RX5 TX5 12, w ∈ wsX9_takeBack := by decide +kernel
theorem mX9_takeBack_4 : Cond.fieldLink RX9 31 "Bloomclock" "rail" "Ljava/util/ArrayList;" ∈ wsX9_takeBack := by decide +kernel
theorem hiX9_takeBack_10 : ∀ w ∈ u_ws RX9 TX9 18, w ∈ wsX9_takeBack := by decide +kernel
abbrev c2t_X9_takeBack (E : kx_E) (av : List Value) (M : kx_M) (k ks : Nat) (Q : kx_Q) : Prop := kx_CT E (kx_w2 E) yX9_takeBack wsX9_takeBack 3 73 av M k ks Q
def cd_X9_takeBack (E : kx_E) : List (Nat × kx_T) := [
  (0, t_al 1 0),
  (1, t_al 2 1),
  (2, t_push 3 (.int (-1))),
  (3, t_call (c2t_X9_book E) 6 3 11),
  (6, t_al 7 1),
  (7, t_gR 10 9 160),
  (10, t_gI 13 7 129),
  (13, t_push 14 (.int 2)),
  (14, t_ic 17 25 (fun x y => x ≠ y)),
  (17, t_al 18 1),
  (18, t_gR 21 9 160),
  (21, t_push 22 (.int 0)),
  (22, t_pI 25 7 129),
  (25, t_al 26 0),
  (26, t_gR 29 11 206),
  (29, t_fun (f2_Jx4a65c_isEmpty_aae02 E) 0 0 32 1),
  (32, t_if 35 52 (fun x => x ≠ 0)),
  (35, t_al 36 0),
  (36, t_gR 39 11 206),
  (39, t_al 40 0),
  (40, t_gR 43 11 206),
  (43, t_fun (f2_Jx4a65c_size_8abf5 E) 0 0 46 1),
  (46, t_push 47 (.int 1)),
  (47, t_bin 48 (fun x y => x - y)),
  (48, t_fun (f2_Jx4a65c_remove_915e3 E) 0 0 51 2),
  (51, t_pop 52),
  (52, t_vret)]
set_option maxRecDepth 4000 in
theorem en_X9_takeBack (E : kx_E) {av : List Value} {M : kx_M} {k ks : Nat} {Qr : kx_Q} (hlen : (lg_sl av).length ≤ 2) (h : ∀ G : kx_K, kx_all G Qr (cd_X9_takeBack E) → G k ks 0 (lv_args 0 av) [] M) : c2t_X9_takeBack E av M k ks Qr := by
  refine kx_enter (by decide) rfl hlen (own := RX9) rfl (cd := cd_X9_takeBack E) ?_ h
  intro p e s m below meth c C hr hl hnm
  exact ⟨ok_aload_n C dX9_takeBack_0 rfl,
    ok_aload_n C dX9_takeBack_1 rfl,
    ok_iconst C dX9_takeBack_2 (by decide),
    ok_callV C (kx_w2_rcv E) (ci := 10) (Cn := RX9) (T := TX9) (N := 18) rfl (n := 2) gX9_takeBack_X9_book rfl (by decide +kernel) ⟨Nat.le_of_ble_eq_true rfl, Nat.le_of_ble_eq_true rfl⟩ dX9_takeBack_3,
    ok_aload_n C dX9_takeBack_6 rfl,
    ok_gR C (ci := 8) (k := 0) (Cn := RX7) (T := TX7) (N := 7) (index := 288) (ref := "Bloomclock$Sale") (kx_w2_good E) rfl rfl (by decide) hiX9_takeBack_8 mX9_takeBack_0 (fun _ h9 => h9) rfl dX9_takeBack_7,
    ok_gI C (ci := 6) (k := 9) (Cn := RX5) (T := TX5) (N := 12) (index := 146) (ref := "Bloomclock$Lot") (kx_w2_good E) rfl rfl (by decide) hiX9_takeBack_6 mX9_takeBack_2 (fun _ h9 => h9) rfl dX9_takeBack_10,
    ok_iconst C dX9_takeBack_13 (by decide),
    ok_ic_ne C dX9_takeBack_14 (by decide),
    ok_aload_n C dX9_takeBack_17 rfl,
    ok_gR C (ci := 8) (k := 0) (Cn := RX7) (T := TX7) (N := 7) (index := 288) (ref := "Bloomclock$Sale") (kx_w2_good E) rfl rfl (by decide) hiX9_takeBack_8 mX9_takeBack_0 (fun _ h9 => h9) rfl dX9_takeBack_18,
    ok_iconst C dX9_takeBack_21 (by decide),
    ok_pI C (ci := 6) (k := 9) (Cn := RX5) (T := TX5) (N := 12) (index := 146) (ref := "Bloomclock$Lot") (kx_w2_good E) rfl rfl (by decide) hiX9_takeBack_6 mX9_takeBack_2 (fun _ h9 => h9) tyX5 tyX5_ok nmX5 rfl (by decide +kernel) rfl dX9_takeBack_22,
    ok_aload_n C dX9_takeBack_25 rfl,
    ok_gR C (ci := 10) (k := 6) (Cn := RX9) (T := TX9) (N := 18) (index := 31) (ref := "Bloomclock") (kx_w2_good E) rfl rfl (by decide) hiX9_takeBack_10 mX9_takeBack_4 (fun _ h9 => h9) rfl dX9_takeBack_26,
    ok_fun (ok_callV C (kx_w2_rcv E) (ci := 0) (Cn := RJx4a65c) (T := TJx4a65c) (N := 3) rfl (n := 0) gX9_takeBack_Jx4a65c_isEmpty_aae02 rfl (by decide +kernel) ⟨Nat.le_of_ble_eq_true rfl, Nat.le_of_ble_eq_true rfl⟩ dX9_takeBack_29) (fun av M h => f2_Jx4a65c_isEmpty_aae02_ok E h) (Or.inr (fun av M h => f2_Jx4a65c_isEmpty_aae02_rc E h)),
    ok_if_ne C dX9_takeBack_32 (by decide),
    ok_aload_n C dX9_takeBack_35 rfl,
    ok_gR C (ci := 10) (k := 6) (Cn := RX9) (T := TX9) (N := 18) (index := 31) (ref := "Bloomclock") (kx_w2_good E) rfl rfl (by decide) hiX9_takeBack_10 mX9_takeBack_4 (fun _ h9 => h9) rfl dX9_takeBack_36,
    ok_aload_n C dX9_takeBack_39 rfl,
    ok_gR C (ci := 10) (k := 6) (Cn := RX9) (T := TX9) (N := 18) (index := 31) (ref := "Bloomclock") (kx_w2_good E) rfl rfl (by decide) hiX9_takeBack_10 mX9_takeBack_4 (fun _ h9 => h9) rfl dX9_takeBack_40,
    ok_fun (ok_callV C (kx_w2_rcv E) (ci := 0) (Cn := RJx4a65c) (T := TJx4a65c) (N := 3) rfl (n := 0) gX9_takeBack_Jx4a65c_size_8abf5 rfl (by decide +kernel) ⟨Nat.le_of_ble_eq_true rfl, Nat.le_of_ble_eq_true rfl⟩ dX9_takeBack_43) (fun av M h => f2_Jx4a65c_size_8abf5_ok E h) (Or.inr (fun av M h => f2_Jx4a65c_size_8abf5_rc E h)),
    ok_iconst C dX9_takeBack_46 (by decide),
    ok_isub C dX9_takeBack_47,
    ok_fun (ok_callV C (kx_w2_rcv E) (ci := 0) (Cn := RJx4a65c) (T := TJx4a65c) (N := 3) rfl (n := 1) gX9_takeBack_Jx4a65c_remove_915e3 rfl (by decide +kernel) ⟨Nat.le_of_ble_eq_true rfl, Nat.le_of_ble_eq_true rfl⟩ dX9_takeBack_48) (fun av M h => f2_Jx4a65c_remove_915e3_ok E h) (Or.inr (fun av M h => f2_Jx4a65c_remove_915e3_rc E h)),
    ok_pop C dX9_takeBack_51,
    ok_vret C hr hl dX9_takeBack_52, trivial⟩

theorem mX9_bind_0 : Cond.static yX9_isWithin ∈ wsX9_bind := by decide +kernel
theorem mX9_bind_1 : Cond.methodLink RX9 85 yX9_isWithin ∈ wsX9_bind := by decide +kernel
theorem mX9_bind_2 : Cond.initialized RX9 ∈ wsX9_bind := by decide +kernel
theorem mX9_bind_3 : Cond.fieldLink RX9 306 "Bloomclock$Buyer" "stock" "LBloomclock$ByCultivar;" ∈ wsX9_bind := by decide +kernel
theorem hiX9_bind_1 : ∀ w ∈ u_ws RX0 TX0 11, w ∈ wsX9_bind := by decide +kernel
theorem mX9_bind_5 : Cond.static yX9_bindsOne ∈ wsX9_bind := by decide +kernel
theorem mX9_bind_6 : Cond.methodLink RX9 309 yX9_bindsOne ∈ wsX9_bind := by decide +kernel
theorem mX9_bind_7 : Cond.fieldLink RX9 313 "Bloomclock$Buyer" "bouquets" "I" ∈ wsX9_bind := by decide +kernel
abbrev c2t_X9_bind (E : kx_E) (av : List Value) (M : kx_M) (k ks : Nat) (Q : kx_Q) : Prop := kx_CT E (kx_w2 E) yX9_bind wsX9_bind 4 85 av M k ks Q
def cd_X9_bind (E : kx_E) : List (Nat × kx_T) := [
  (0, t_al 1 0),
  (1, t_il 2 1),
  (2, t_fun (f2_X9_buyerAt E) 0 0 5 2),
  (5, t_as 6 3),
  (6, t_il 7 2),
  (7, t_push 8 (.int 1)),
  (8, t_push 10 (.int 99)),
  (10, t_fun (f2_X9_isWithin E) 0 0 13 3),
  (13, t_if 16 27 (fun x => x ≠ 0)),
  (16, t_no),
  (27, t_push 28 (.int 0)),
  (28, t_is 30 4),
  (30, t_il 32 4),
  (32, t_il 33 2),
  (33, t_ic 36 52 (fun x y => y ≤ x)),
  (36, t_al 37 3),
  (37, t_gR 40 2 22),
  (40, t_fun (f2_X9_bindsOne E) 0 0 43 1),
  (43, t_if 46 52 (fun x => x = 0)),
  (46, t_inc 49 4 1),
  (49, t_gk 30 5),
  (52, t_al 53 3),
  (53, t_dup 54),
  (54, t_gI 57 2 27),
  (57, t_il 59 4),
  (59, t_bin 60 (fun x y => x + y)),
  (60, t_pI 63 2 27),
  (63, t_il 65 4),
  (65, t_iret)]
set_option maxRecDepth 4000 in
theorem en_X9_bind (E : kx_E) {av : List Value} {M : kx_M} {k ks : Nat} {Qr : kx_Q} (hlen : (lg_sl av).length ≤ 5) (h : ∀ G : kx_K, kx_all G Qr (cd_X9_bind E) → G k ks 0 (lv_args 0 av) [] M) : c2t_X9_bind E av M k ks Qr := by
  refine kx_enter (by decide) rfl hlen (own := RX9) rfl (cd := cd_X9_bind E) ?_ h
  intro p e s m below meth c C hr hl hnm
  exact ⟨ok_aload_n C dX9_bind_0 rfl,
    ok_iload_n C dX9_bind_1 rfl,
    ok_fun (ok_callV C (kx_w2_rcv E) (ci := 10) (Cn := RX9) (T := TX9) (N := 18) rfl (n := 1) gX9_bind_X9_buyerAt rfl (by decide +kernel) ⟨Nat.le_of_ble_eq_true rfl, Nat.le_of_ble_eq_true rfl⟩ dX9_bind_2) (fun av M h => f2_X9_buyerAt_ok E h) (Or.inr (fun av M h => f2_X9_buyerAt_rc E h)),
    ok_astore_n C dX9_bind_5 rfl (by decide),
    ok_iload_n C dX9_bind_6 rfl,
    ok_iconst C dX9_bind_7 (by decide),
    ok_bipush C dX9_bind_8 (by decide),
    ok_fun (ok_callT C (n := 3) ggX9_bind_X9_isWithin mX9_bind_0 mX9_bind_1 mX9_bind_2 rfl (by decide +kernel) ⟨Nat.le_of_ble_eq_true rfl, Nat.le_of_ble_eq_true rfl⟩ dX9_bind_10) (fun av M h => f2_X9_isWithin_ok E h) (Or.inl rfl),
    ok_if_ne C dX9_bind_13 (by decide),
    ok_no,
    ok_iconst C dX9_bind_27 (by decide),
    ok_istore C dX9_bind_28 (by decide),
    ok_iload C dX9_bind_30,
    ok_iload_n C dX9_bind_32 rfl,
    ok_ic_ge C dX9_bind_33 (by decide),
    ok_aload_n C dX9_bind_36 rfl,
    ok_gR C (ci := 1) (k := 2) (Cn := RX0) (T := TX0) (N := 11) (index := 306) (ref := "Bloomclock$Buyer") (kx_w2_good E) rfl rfl (by decide) hiX9_bind_1 mX9_bind_3 (fun _ h9 => h9) rfl dX9_bind_37,
    ok_fun (ok_callT C (n := 1) ggX9_bind_X9_bindsOne mX9_bind_5 mX9_bind_6 mX9_bind_2 rfl (by decide +kernel) ⟨Nat.le_of_ble_eq_true rfl, Nat.le_of_ble_eq_true rfl⟩ dX9_bind_40) (fun av M h => f2_X9_bindsOne_ok E h) (Or.inl rfl),
    ok_if_eq C dX9_bind_43 (by decide),
    ok_iinc C dX9_bind_46 (by decide) (by decide),
    ok_gotoK C dX9_bind_49 (by decide),
    ok_aload_n C dX9_bind_52 rfl,
    ok_dup C dX9_bind_53,
    ok_gI C (ci := 1) (k := 7) (Cn := RX0) (T := TX0) (N := 11) (index := 313) (ref := "Bloomclock$Buyer") (kx_w2_good E) rfl rfl (by decide) hiX9_bind_1 mX9_bind_7 (fun _ h9 => h9) rfl dX9_bind_54,
    ok_iload C dX9_bind_57,
    ok_iadd C dX9_bind_59,
    ok_pI C (ci := 1) (k := 7) (Cn := RX0) (T := TX0) (N := 11) (index := 313) (ref := "Bloomclock$Buyer") (kx_w2_good E) rfl rfl (by decide) hiX9_bind_1 mX9_bind_7 (fun _ h9 => h9) tyX0 tyX0_ok nmX0 rfl (by decide +kernel) rfl dX9_bind_60,
    ok_iload C dX9_bind_63,
    ok_iret C hr hl dX9_bind_65, trivial⟩

theorem mX9_runRail_0 : Cond.fieldLink RX9 60 "Bloomclock" "railSpeed" "I" ∈ wsX9_runRail := by decide +kernel
theorem hiX9_runRail_10 : ∀ w ∈ u_ws RX9 TX9 18, w ∈ wsX9_runRail := by decide +kernel
theorem mX9_runRail_2 : Cond.fieldLink RX9 31 "Bloomclock" "rail" "Ljava/util/ArrayList;" ∈ wsX9_runRail := by decide +kernel
theorem mX9_runRail_3 : Cond.classLink RX9 440 RX8 ∈ wsX9_runRail := by decide +kernel
abbrev c2t_X9_runRail (E : kx_E) (av : List Value) (M : kx_M) (k ks : Nat) (Q : kx_Q) : Prop := kx_CT E (kx_w2 E) yX9_runRail wsX9_runRail 4 88 av M k ks Q
def cd_X9_runRail (E : kx_E) : List (Nat × kx_T) := [
  (0, t_push 1 (.int 0)),
  (1, t_is 2 1),
  (2, t_il 3 1),
  (3, t_al 4 0),
  (4, t_gI 7 11 213),
  (7, t_ic 10 44 (fun x y => y ≤ x)),
  (10, t_al 11 0),
  (11, t_gR 14 11 206),
  (14, t_fun (f2_Jx4a65c_isEmpty_aae02 E) 0 0 17 1),
  (17, t_if 20 44 (fun x => x ≠ 0)),
  (20, t_al 21 0),
  (21, t_al 22 0),
  (22, t_gR 25 11 206),
  (25, t_al 26 0),
  (26, t_fun (f2_X9_nextOnRail E) 0 0 29 1),
  (29, t_fun (f2_Jx4a65c_remove_915e3 E) 0 0 32 2),
  (32, t_cst 35 10),
  (35, t_fun (f2_X9_unload E) 0 0 38 2),
  (38, t_inc 41 1 1),
  (41, t_gk 2 2),
  (44, t_il 45 1),
  (45, t_iret)]
set_option maxRecDepth 4000 in
theorem en_X9_runRail (E : kx_E) {av : List Value} {M : kx_M} {k ks : Nat} {Qr : kx_Q} (hlen : (lg_sl av).length ≤ 2) (h : ∀ G : kx_K, kx_all G Qr (cd_X9_runRail E) → G k ks 0 (lv_args 0 av) [] M) : c2t_X9_runRail E av M k ks Qr := by
  refine kx_enter (by decide) rfl hlen (own := RX9) rfl (cd := cd_X9_runRail E) ?_ h
  intro p e s m below meth c C hr hl hnm
  exact ⟨ok_iconst C dX9_runRail_0 (by decide),
    ok_istore_n C dX9_runRail_1 rfl (by decide),
    ok_iload_n C dX9_runRail_2 rfl,
    ok_aload_n C dX9_runRail_3 rfl,
    ok_gI C (ci := 10) (k := 13) (Cn := RX9) (T := TX9) (N := 18) (index := 60) (ref := "Bloomclock") (kx_w2_good E) rfl rfl (by decide) hiX9_runRail_10 mX9_runRail_0 (fun _ h9 => h9) rfl dX9_runRail_4,
    ok_ic_ge C dX9_runRail_7 (by decide),
    ok_aload_n C dX9_runRail_10 rfl,
    ok_gR C (ci := 10) (k := 6) (Cn := RX9) (T := TX9) (N := 18) (index := 31) (ref := "Bloomclock") (kx_w2_good E) rfl rfl (by decide) hiX9_runRail_10 mX9_runRail_2 (fun _ h9 => h9) rfl dX9_runRail_11,
    ok_fun (ok_callV C (kx_w2_rcv E) (ci := 0) (Cn := RJx4a65c) (T := TJx4a65c) (N := 3) rfl (n := 0) gX9_runRail_Jx4a65c_isEmpty_aae02 rfl (by decide +kernel) ⟨Nat.le_of_ble_eq_true rfl, Nat.le_of_ble_eq_true rfl⟩ dX9_runRail_14) (fun av M h => f2_Jx4a65c_isEmpty_aae02_ok E h) (Or.inr (fun av M h => f2_Jx4a65c_isEmpty_aae02_rc E h)),
    ok_if_ne C dX9_runRail_17 (by decide),
    ok_aload_n C dX9_runRail_20 rfl,
    ok_aload_n C dX9_runRail_21 rfl,
    ok_gR C (ci := 10) (k := 6) (Cn := RX9) (T := TX9) (N := 18) (index := 31) (ref := "Bloomclock") (kx_w2_good E) rfl rfl (by decide) hiX9_runRail_10 mX9_runRail_2 (fun _ h9 => h9) rfl dX9_runRail_22,
    ok_aload_n C dX9_runRail_25 rfl,
    ok_fun (ok_callV C (kx_w2_rcv E) (ci := 10) (Cn := RX9) (T := TX9) (N := 18) rfl (n := 0) gX9_runRail_X9_nextOnRail rfl (by decide +kernel) ⟨Nat.le_of_ble_eq_true rfl, Nat.le_of_ble_eq_true rfl⟩ dX9_runRail_26) (fun av M h => f2_X9_nextOnRail_ok E h) (Or.inr (fun av M h => f2_X9_nextOnRail_rc E h)),
    ok_fun (ok_callV C (kx_w2_rcv E) (ci := 0) (Cn := RJx4a65c) (T := TJx4a65c) (N := 3) rfl (n := 1) gX9_runRail_Jx4a65c_remove_915e3 rfl (by decide +kernel) ⟨Nat.le_of_ble_eq_true rfl, Nat.le_of_ble_eq_true rfl⟩ dX9_runRail_29) (fun av M h => f2_Jx4a65c_remove_915e3_ok E h) (Or.inr (fun av M h => f2_Jx4a65c_remove_915e3_rc E h)),
    ok_cst C (ci := 9) (Cn := RX8) (T := TX8) (N := 4) (kx_w2_good E) rfl rfl mX9_runRail_3 dX9_runRail_32,
    ok_fun (ok_callV C (kx_w2_rcv E) (ci := 10) (Cn := RX9) (T := TX9) (N := 18) rfl (n := 1) gX9_runRail_X9_unload rfl (by decide +kernel) ⟨Nat.le_of_ble_eq_true rfl, Nat.le_of_ble_eq_true rfl⟩ dX9_runRail_35) (fun av M h => f2_X9_unload_ok E h) (Or.inr (fun av M h => f2_X9_unload_rc E h)),
    ok_iinc C dX9_runRail_38 (by decide) (by decide),
    ok_gotoK C dX9_runRail_41 (by decide),
    ok_iload_n C dX9_runRail_44 rfl,
    ok_iret C hr hl dX9_runRail_45, trivial⟩
