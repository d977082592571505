theorem mX2_begin_0 : Cond.fieldLink RX2 9 "Bloomclock$Lot" "cultivar" "I" ∈ wsX2_begin := by decide +kernel
theorem hiX2_begin_6 : ∀ w ∈ u_ws RX5 TX5 12, w ∈ wsX2_begin := by decide +kernel
theorem mX2_begin_2 : Cond.fieldLink RX2 15 "Bloomclock$ClockRun" "cultivar" "I" ∈ wsX2_begin := by decide +kernel
theorem hiX2_begin_3 : ∀ w ∈ u_ws RX2 TX2 10, w ∈ wsX2_begin := by decide +kernel
theorem mX2_begin_4 : Cond.fieldLink RX2 18 "Bloomclock$Lot" "grade" "I" ∈ wsX2_begin := by decide +kernel
theorem mX2_begin_5 : Cond.fieldLink RX2 21 "Bloomclock$ClockRun" "grade" "I" ∈ wsX2_begin := by decide +kernel
theorem mX2_begin_6 : Cond.fieldLink RX2 22 "Bloomclock$Lot" "life" "I" ∈ wsX2_begin := by decide +kernel
theorem mX2_begin_7 : Cond.methodLink RX2 25 Lib.Math.min.name ∈ wsX2_begin := by decide +kernel
theorem mX2_begin_8 : Cond.static Lib.Math.min.name ∈ wsX2_begin := by decide +kernel
theorem mX2_begin_9 : Cond.initialized "java/lang/Math" ∈ wsX2_begin := by decide +kernel
theorem mX2_begin_10 : Cond.code Lib.Math.min.name Lib.Math.min.code 2 (some .int) ∈ wsX2_begin := by decide +kernel
theorem mX2_begin_11 : Cond.fieldLink RX2 31 "Bloomclock$ClockRun" "shown" "I" ∈ wsX2_begin := by decide +kernel
theorem mX2_begin_12 : Cond.fieldLink RX2 34 "Bloomclock$Lot" "grower" "LBloomclock$Grower;" ∈ wsX2_begin := by decide +kernel
theorem mX2_begin_13 : Cond.fieldLink RX2 38 "Bloomclock$Grower" "mark" "I" ∈ wsX2_begin := by decide +kernel
theorem hiX2_begin_5 : ∀ w ∈ u_ws RX4 TX4 5, w ∈ wsX2_begin := by decide +kernel
theorem mX2_begin_15 : Cond.fieldLink RX2 43 "Bloomclock$ClockRun" "mark" "I" ∈ wsX2_begin := by decide +kernel
theorem mX2_begin_16 : Cond.fieldLink RX2 44 "Bloomclock$ClockRun" "minimum" "I" ∈ wsX2_begin := by decide +kernel
theorem mX2_begin_17 : Cond.fieldLink RX2 47 "Bloomclock$ClockRun" "start" "I" ∈ wsX2_begin := by decide +kernel
theorem mX2_begin_18 : Cond.fieldLink RX2 50 "Bloomclock$Lot" "stems" "I" ∈ wsX2_begin := by decide +kernel
theorem mX2_begin_19 : Cond.fieldLink RX2 53 "Bloomclock$ClockRun" "stemsLeft" "I" ∈ wsX2_begin := by decide +kernel
theorem mX2_begin_20 : Cond.fieldLink RX2 56 "Bloomclock$Lot" "buckets" "I" ∈ wsX2_begin := by decide +kernel
theorem mX2_begin_21 : Cond.fieldLink RX2 59 "Bloomclock$ClockRun" "bucketsLeft" "I" ∈ wsX2_begin := by decide +kernel
theorem mX2_begin_22 : Cond.classLink RX2 72 RX0 ∈ wsX2_begin := by decide +kernel
theorem mX2_begin_23 : Cond.fieldLink RX2 74 "Bloomclock$Buyer" "coins" "I" ∈ wsX2_begin := by decide +kernel
theorem hiX2_begin_1 : ∀ w ∈ u_ws RX0 TX0 11, w ∈ wsX2_begin := by decide +kernel
theorem mX2_begin_25 : Cond.fieldLink RX2 77 "Bloomclock$Buyer" "purse" "I" ∈ wsX2_begin := by decide +kernel
theorem mX2_begin_26 : Cond.fieldLink RX2 80 "Bloomclock$Buyer" "latency" "I" ∈ wsX2_begin := by decide +kernel
theorem mX2_begin_27 : Cond.fieldLink RX2 83 "Bloomclock$Buyer" "evened" "I" ∈ wsX2_begin := by decide +kernel
theorem mX2_begin_28 : Cond.methodLink RX2 86 Lib.Math.max.name ∈ wsX2_begin := by decide +kernel
theorem mX2_begin_29 : Cond.static Lib.Math.max.name ∈ wsX2_begin := by decide +kernel
theorem mX2_begin_30 : Cond.code Lib.Math.max.name Lib.Math.max.code 2 (some .int) ∈ wsX2_begin := by decide +kernel
theorem mX2_begin_31 : Cond.fieldLink RX2 89 "Bloomclock$Buyer" "late" "I" ∈ wsX2_begin := by decide +kernel
theorem mX2_begin_32 : Cond.fieldLink RX2 92 "Bloomclock$Buyer" "isOut" "Z" ∈ wsX2_begin := by decide +kernel
theorem mX2_begin_33 : Cond.classLink RX2 96 RX6 ∈ wsX2_begin := by decide +kernel
theorem mX2_begin_34 : Cond.fieldLink RX2 98 "Bloomclock$Order" "wanted" "I" ∈ wsX2_begin := by decide +kernel
theorem hiX2_begin_7 : ∀ w ∈ u_ws RX6 TX6 8, w ∈ wsX2_begin := by decide +kernel
theorem mX2_begin_36 : Cond.fieldLink RX2 101 "Bloomclock$Order" "open" "I" ∈ wsX2_begin := by decide +kernel
abbrev c2t_X2_begin (E : kx_E) (av : List Value) (M : kx_M) (k ks : Nat) (Q : kx_Q) : Prop := kx_CT E (kx_w2 E) yX2_begin wsX2_begin 3 64 av M k ks Q
def cd_X2_begin (E : kx_E) : List (Nat × kx_T) := [
  (0, t_al 1 0),
  (1, t_al 2 1),
  (2, t_gI 5 7 123),
  (5, t_pI 8 4 60),
  (8, t_al 9 0),
  (9, t_al 10 1),
  (10, t_gI 13 7 124),
  (13, t_pI 16 4 61),
  (16, t_al 17 0),
  (17, t_il 18 2),
  (18, t_al 19 1),
  (19, t_gI 22 7 126),
  (22, t_mm 25 (fun x y => if y < x then y else x)),
  (25, t_pI 28 4 62),
  (28, t_al 29 0),
  (29, t_al 30 1),
  (30, t_gR 33 7 121),
  (33, t_gI 36 6 103),
  (36, t_pI 39 4 63),
  (39, t_al 40 0),
  (40, t_il 41 3),
  (41, t_pI 44 4 64),
  (44, t_al 45 0),
  (45, t_push 47 (.int 99)),
  (47, t_pI 50 4 65),
  (50, t_al 51 0),
  (51, t_al 52 1),
  (52, t_gI 55 7 125),
  (55, t_pI 58 4 66),
  (58, t_al 59 0),
  (59, t_al 60 1),
  (60, t_gI 63 7 127),
  (63, t_pI 66 4 67),
  (66, t_push 67 (.int 0)),
  (67, t_is 69 6),
  (69, t_il 71 6),
  (71, t_al 73 4),
  (73, t_fun (f2_Jx4a65c_size_8abf5 E) 0 0 76 1),
  (76, t_ic 79 133 (fun x y => y ≤ x)),
  (79, t_al 81 4),
  (81, t_il 83 6),
  (83, t_fun (f2_Jx4a65c_get_915e3 E) 0 0 86 2),
  (86, t_cst 89 2),
  (89, t_as 91 7),
  (91, t_al 93 7),
  (93, t_al 95 7),
  (95, t_gI 98 2 23),
  (98, t_pI 101 2 28),
  (101, t_al 103 7),
  (103, t_push 104 (.int 0)),
  (104, t_al 106 7),
  (106, t_gI 109 2 21),
  (109, t_al 111 7),
  (111, t_gI 114 2 24),
  (114, t_bin 115 (fun x y => x - y)),
  (115, t_mm 118 (fun x y => if x < y then y else x)),
  (118, t_pI 121 2 29),
  (121, t_al 123 7),
  (123, t_push 124 (.int 0)),
  (124, t_pZ 127 2 30),
  (127, t_inc 130 6 1),
  (130, t_gk 69 7),
  (133, t_push 134 (.int 0)),
  (134, t_is 136 6),
  (136, t_il 138 6),
  (138, t_al 140 5),
  (140, t_fun (f2_Jx4a65c_size_8abf5 E) 0 0 143 1),
  (143, t_ic 146 174 (fun x y => y ≤ x)),
  (146, t_al 148 5),
  (148, t_il 150 6),
  (150, t_fun (f2_Jx4a65c_get_915e3 E) 0 0 153 2),
  (153, t_cst 156 8),
  (156, t_as 158 7),
  (158, t_al 160 7),
  (160, t_al 162 7),
  (162, t_gI 165 8 146),
  (165, t_pI 168 8 147),
  (168, t_inc 171 6 1),
  (171, t_gk 136 7),
  (174, t_vret)]
set_option maxRecDepth 4000 in
theorem en_X2_begin (E : kx_E) {av : List Value} {M : kx_M} {k ks : Nat} {Qr : kx_Q} (hlen : (lg_sl av).length ≤ 8) (h : ∀ G : kx_K, kx_all G Qr (cd_X2_begin E) → G k ks 0 (lv_args 0 av) [] M) : c2t_X2_begin E av M k ks Qr := by
  refine kx_enter (by decide) rfl hlen (own := RX2) rfl (cd := cd_X2_begin E) ?_ h
  intro p e s m below meth c C hr hl hnm
  exact ⟨ok_aload_n C dX2_begin_0 rfl,
    ok_aload_n C dX2_begin_1 rfl,
    ok_gI C (ci := 6) (k := 3) (Cn := RX5) (T := TX5) (N := 12) (index := 9) (ref := "Bloomclock$Lot") (kx_w2_good E) rfl rfl (by decide) hiX2_begin_6 mX2_begin_0 (fun _ h9 => h9) rfl dX2_begin_2,
    ok_pI C (ci := 3) (k := 0) (Cn := RX2) (T := TX2) (N := 10) (index := 15) (ref := "Bloomclock$ClockRun") (kx_w2_good E) rfl rfl (by decide) hiX2_begin_3 mX2_begin_2 (fun _ h9 => h9) tyX2 tyX2_ok nmX2 rfl (by decide +kernel) rfl dX2_begin_5,
    ok_aload_n C dX2_begin_8 rfl,
    ok_aload_n C dX2_begin_9 rfl,
    ok_gI C (ci := 6) (k := 4) (Cn := RX5) (T := TX5) (N := 12) (index := 18) (ref := "Bloomclock$Lot") (kx_w2_good E) rfl rfl (by decide) hiX2_begin_6 mX2_begin_4 (fun _ h9 => h9) rfl dX2_begin_10,
    ok_pI C (ci := 3) (k := 1) (Cn := RX2) (T := TX2) (N := 10) (index := 21) (ref := "Bloomclock$ClockRun") (kx_w2_good E) rfl rfl (by decide) hiX2_begin_3 mX2_begin_5 (fun _ h9 => h9) tyX2 tyX2_ok nmX2 rfl (by decide +kernel) rfl dX2_begin_13,
    ok_aload_n C dX2_begin_16 rfl,
    ok_iload_n C dX2_begin_17 rfl,
    ok_aload_n C dX2_begin_18 rfl,
    ok_gI C (ci := 6) (k := 6) (Cn := RX5) (T := TX5) (N := 12) (index := 22) (ref := "Bloomclock$Lot") (kx_w2_good E) rfl rfl (by decide) hiX2_begin_6 mX2_begin_6 (fun _ h9 => h9) rfl dX2_begin_19,
    ok_min C mX2_begin_7 mX2_begin_8 mX2_begin_9 mX2_begin_10 ⟨Nat.le_of_ble_eq_true rfl, Nat.le_of_ble_eq_true rfl⟩ dX2_begin_22,
    ok_pI C (ci := 3) (k := 2) (Cn := RX2) (T := TX2) (N := 10) (index := 31) (ref := "Bloomclock$ClockRun") (kx_w2_good E) rfl rfl (by decide) hiX2_begin_3 mX2_begin_11 (fun _ h9 => h9) tyX2 tyX2_ok nmX2 rfl (by decide +kernel) rfl dX2_begin_25,
    ok_aload_n C dX2_begin_28 rfl,
    ok_aload_n C dX2_begin_29 rfl,
    ok_gR C (ci := 6) (k := 1) (Cn := RX5) (T := TX5) (N := 12) (index := 34) (ref := "Bloomclock$Lot") (kx_w2_good E) rfl rfl (by decide) hiX2_begin_6 mX2_begin_12 (fun _ h9 => h9) rfl dX2_begin_30,
    ok_gI C (ci := 5) (k := 3) (Cn := RX4) (T := TX4) (N := 5) (index := 38) (ref := "Bloomclock$Grower") (kx_w2_good E) rfl rfl (by decide) hiX2_begin_5 mX2_begin_13 (fun _ h9 => h9) rfl dX2_begin_33,
    ok_pI C (ci := 3) (k := 3) (Cn := RX2) (T := TX2) (N := 10) (index := 43) (ref := "Bloomclock$ClockRun") (kx_w2_good E) rfl rfl (by decide) hiX2_begin_3 mX2_begin_15 (fun _ h9 => h9) tyX2 tyX2_ok nmX2 rfl (by decide +kernel) rfl dX2_begin_36,
    ok_aload_n C dX2_begin_39 rfl,
    ok_iload_n C dX2_begin_40 rfl,
    ok_pI C (ci := 3) (k := 4) (Cn := RX2) (T := TX2) (N := 10) (index := 44) (ref := "Bloomclock$ClockRun") (kx_w2_good E) rfl rfl (by decide) hiX2_begin_3 mX2_begin_16 (fun _ h9 => h9) tyX2 tyX2_ok nmX2 rfl (by decide +kernel) rfl dX2_begin_41,
    ok_aload_n C dX2_begin_44 rfl,
    ok_bipush C dX2_begin_45 (by decide),
    ok_pI C (ci := 3) (k := 5) (Cn := RX2) (T := TX2) (N := 10) (index := 47) (ref := "Bloomclock$ClockRun") (kx_w2_good E) rfl rfl (by decide) hiX2_begin_3 mX2_begin_17 (fun _ h9 => h9) tyX2 tyX2_ok nmX2 rfl (by decide +kernel) rfl dX2_begin_47,
    ok_aload_n C dX2_begin_50 rfl,
    ok_aload_n C dX2_begin_51 rfl,
    ok_gI C (ci := 6) (k := 5) (Cn := RX5) (T := TX5) (N := 12) (index := 50) (ref := "Bloomclock$Lot") (kx_w2_good E) rfl rfl (by decide) hiX2_begin_6 mX2_begin_18 (fun _ h9 => h9) rfl dX2_begin_52,
    ok_pI C (ci := 3) (k := 6) (Cn := RX2) (T := TX2) (N := 10) (index := 53) (ref := "Bloomclock$ClockRun") (kx_w2_good E) rfl rfl (by decide) hiX2_begin_3 mX2_begin_19 (fun _ h9 => h9) tyX2 tyX2_ok nmX2 rfl (by decide +kernel) rfl dX2_begin_55,
    ok_aload_n C dX2_begin_58 rfl,
    ok_aload_n C dX2_begin_59 rfl,
    ok_gI C (ci := 6) (k := 7) (Cn := RX5) (T := TX5) (N := 12) (index := 56) (ref := "Bloomclock$Lot") (kx_w2_good E) rfl rfl (by decide) hiX2_begin_6 mX2_begin_20 (fun _ h9 => h9) rfl dX2_begin_60,
    ok_pI C (ci := 3) (k := 7) (Cn := RX2) (T := TX2) (N := 10) (index := 59) (ref := "Bloomclock$ClockRun") (kx_w2_good E) rfl rfl (by decide) hiX2_begin_3 mX2_begin_21 (fun _ h9 => h9) tyX2 tyX2_ok nmX2 rfl (by decide +kernel) rfl dX2_begin_63,
    ok_iconst C dX2_begin_66 (by decide),
    ok_istore C dX2_begin_67 (by decide),
    ok_iload C dX2_begin_69,
    ok_aload C dX2_begin_71,
    ok_fun (ok_callV C (kx_w2_rcv E) (ci := 0) (Cn := RJx4a65c) (T := TJx4a65c) (N := 3) rfl (n := 0) gX2_begin_Jx4a65c_size_8abf5 rfl (by decide +kernel) ⟨Nat.le_of_ble_eq_true rfl, Nat.le_of_ble_eq_true rfl⟩ dX2_begin_73) (fun av M h => f2_Jx4a65c_size_8abf5_ok E h) (Or.inr (fun av M h => f2_Jx4a65c_size_8abf5_rc E h)),
    ok_ic_ge C dX2_begin_76 (by decide),
    ok_aload C dX2_begin_79,
    ok_iload C dX2_begin_81,
    ok_fun (ok_callV C (kx_w2_rcv E) (ci := 0) (Cn := RJx4a65c) (T := TJx4a65c) (N := 3) rfl (n := 1) gX2_begin_Jx4a65c_get_915e3 rfl (by decide +kernel) ⟨Nat.le_of_ble_eq_true rfl, Nat.le_of_ble_eq_true rfl⟩ dX2_begin_83) (fun av M h => f2_Jx4a65c_get_915e3_ok E h) (Or.inr (fun av M h => f2_Jx4a65c_get_915e3_rc E h)),
    ok_cst C (ci := 1) (Cn := RX0) (T := TX0) (N := 11) (kx_w2_good E) rfl rfl mX2_begin_22 dX2_begin_86,
    ok_astore C dX2_begin_89 (by decide),
    ok_aload C dX2_begin_91,
    ok_aload C dX2_begin_93,
    ok_gI C (ci := 1) (k := 3) (Cn := RX0) (T := TX0) (N := 11) (index := 74) (ref := "Bloomclock$Buyer") (kx_w2_good E) rfl rfl (by decide) hiX2_begin_1 mX2_begin_23 (fun _ h9 => h9) rfl dX2_begin_95,
    ok_pI C (ci := 1) (k := 8) (Cn := RX0) (T := TX0) (N := 11) (index := 77) (ref := "Bloomclock$Buyer") (kx_w2_good E) rfl rfl (by decide) hiX2_begin_1 mX2_begin_25 (fun _ h9 => h9) tyX0 tyX0_ok nmX0 rfl (by decide +kernel) rfl dX2_begin_98,
    ok_aload C dX2_begin_101,
    ok_iconst C dX2_begin_103 (by decide),
    ok_aload C dX2_begin_104,
    ok_gI C (ci := 1) (k := 1) (Cn := RX0) (T := TX0) (N := 11) (index := 80) (ref := "Bloomclock$Buyer") (kx_w2_good E) rfl rfl (by decide) hiX2_begin_1 mX2_begin_26 (fun _ h9 => h9) rfl dX2_begin_106,
    ok_aload C dX2_begin_109,
    ok_gI C (ci := 1) (k := 4) (Cn := RX0) (T := TX0) (N := 11) (index := 83) (ref := "Bloomclock$Buyer") (kx_w2_good E) rfl rfl (by decide) hiX2_begin_1 mX2_begin_27 (fun _ h9 => h9) rfl dX2_begin_111,
    ok_isub C dX2_begin_114,
    ok_max C mX2_begin_28 mX2_begin_29 mX2_begin_9 mX2_begin_30 ⟨Nat.le_of_ble_eq_true rfl, Nat.le_of_ble_eq_true rfl⟩ dX2_begin_115,
    ok_pI C (ci := 1) (k := 9) (Cn := RX0) (T := TX0) (N := 11) (index := 89) (ref := "Bloomclock$Buyer") (kx_w2_good E) rfl rfl (by decide) hiX2_begin_1 mX2_begin_31 (fun _ h9 => h9) tyX0 tyX0_ok nmX0 rfl (by decide +kernel) rfl dX2_begin_118,
    ok_aload C dX2_begin_121,
    ok_iconst C dX2_begin_123 (by decide),
    ok_pZ C (ci := 1) (k := 10) (Cn := RX0) (T := TX0) (N := 11) (index := 92) (ref := "Bloomclock$Buyer") (kx_w2_good E) rfl rfl (by decide) hiX2_begin_1 mX2_begin_32 (fun _ h9 => h9) tyX0 tyX0_ok nmX0 rfl (by decide +kernel) rfl dX2_begin_124,
    ok_iinc C dX2_begin_127 (by decide) (by decide),
    ok_gotoK C dX2_begin_130 (by decide),
    ok_iconst C dX2_begin_133 (by decide),
    ok_istore C dX2_begin_134 (by decide),
    ok_iload C dX2_begin_136,
    ok_aload C dX2_begin_138,
    ok_fun (ok_callV C (kx_w2_rcv E) (ci := 0) (Cn := RJx4a65c) (T := TJx4a65c) (N := 3) rfl (n := 0) gX2_begin_Jx4a65c_size_8abf5 rfl (by decide +kernel) ⟨Nat.le_of_ble_eq_true rfl, Nat.le_of_ble_eq_true rfl⟩ dX2_begin_140) (fun av M h => f2_Jx4a65c_size_8abf5_ok E h) (Or.inr (fun av M h => f2_Jx4a65c_size_8abf5_rc E h)),
    ok_ic_ge C dX2_begin_143 (by decide),
    ok_aload C dX2_begin_146,
    ok_iload C dX2_begin_148,
    ok_fun (ok_callV C (kx_w2_rcv E) (ci := 0) (Cn := RJx4a65c) (T := TJx4a65c) (N := 3) rfl (n := 1) gX2_begin_Jx4a65c_get_915e3 rfl (by decide +kernel) ⟨Nat.le_of_ble_eq_true rfl, Nat.le_of_ble_eq_true rfl⟩ dX2_begin_150) (fun av M h => f2_Jx4a65c_get_915e3_ok E h) (Or.inr (fun av M h => f2_Jx4a65c_get_915e3_rc E h)),
    ok_cst C (ci := 7) (Cn := RX6) (T := TX6) (N := 8) (kx_w2_good E) rfl rfl mX2_begin_33 dX2_begin_153,
    ok_astore C dX2_begin_156 (by decide),
    ok_aload C dX2_begin_158,
    ok_aload C dX2_begin_160,
    ok_gI C (ci := 7) (k := 6) (Cn := RX6) (T := TX6) (N := 8) (index := 98) (ref := "Bloomclock$Order") (kx_w2_good E) rfl rfl (by decide) hiX2_begin_7 mX2_begin_34 (fun _ h9 => h9) rfl dX2_begin_162,
    ok_pI C (ci := 7) (k := 7) (Cn := RX6) (T := TX6) (N := 8) (index := 101) (ref := "Bloomclock$Order") (kx_w2_good E) rfl rfl (by decide) hiX2_begin_7 mX2_begin_36 (fun _ h9 => h9) tyX6 tyX6_ok nmX6 rfl (by decide +kernel) rfl dX2_begin_165,
    ok_iinc C dX2_begin_168 (by decide) (by decide),
    ok_gotoK C dX2_begin_171 (by decide),
    ok_vret C hr hl dX2_begin_174, trivial⟩

theorem mX2_firstToPress_0 : Cond.classLink RX2 96 RX6 ∈ wsX2_firstToPress := by decide +kernel
abbrev c2t_X2_firstToPress (E : kx_E) (av : List Value) (M : kx_M) (k ks : Nat) (Q : kx_Q) : Prop := kx_CT E (kx_w2 E) yX2_firstToPress wsX2_firstToPress 3 64 av M k ks Q
def cd_X2_firstToPress (E : kx_E) : List (Nat × kx_T) := [
  (0, t_push 1 .null),
  (1, t_as 2 2),
  (2, t_push 3 (.int 0)),
  (3, t_is 4 3),
  (4, t_il 5 3),
  (5, t_al 6 1),
  (6, t_fun (f2_Jx4a65c_size_8abf5 E) 0 0 9 1),
  (9, t_ic 12 54 (fun x y => y ≤ x)),
  (12, t_al 13 1),
  (13, t_il 14 3),
  (14, t_fun (f2_Jx4a65c_get_915e3 E) 0 0 17 2),
  (17, t_cst 20 8),
  (20, t_as 22 4),
  (22, t_al 23 0),
  (23, t_al 25 4),
  (25, t_fun (f2_X2_fits E) 0 0 28 2),
  (28, t_if 31 48 (fun x => x = 0)),
  (31, t_al 32 2),
  (32, t_nul 45 35),
  (35, t_al 36 0),
  (36, t_al 38 4),
  (38, t_al 39 2),
  (39, t_fun (f2_X2_isAhead E) 0 0 42 3),
  (42, t_if 45 48 (fun x => x = 0)),
  (45, t_al 47 4),
  (47, t_as 48 2),
  (48, t_inc 51 3 1),
  (51, t_gk 4 4),
  (54, t_al 55 2),
  (55, t_aret)]
set_option maxRecDepth 4000 in
theorem en_X2_firstToPress (E : kx_E) {av : List Value} {M : kx_M} {k ks : Nat} {Qr : kx_Q} (hlen : (lg_sl av).length ≤ 5) (h : ∀ G : kx_K, kx_all G Qr (cd_X2_firstToPress E) → G k ks 0 (lv_args 0 av) [] M) : c2t_X2_firstToPress E av M k ks Qr := by
  refine kx_enter (by decide) rfl hlen (own := RX2) rfl (cd := cd_X2_firstToPress E) ?_ h
  intro p e s m below meth c C hr hl hnm
  exact ⟨ok_null C dX2_firstToPress_0,
    ok_astore_n C dX2_firstToPress_1 rfl (by decide),
    ok_iconst C dX2_firstToPress_2 (by decide),
    ok_istore_n C dX2_firstToPress_3 rfl (by decide),
    ok_iload_n C dX2_firstToPress_4 rfl,
    ok_aload_n C dX2_firstToPress_5 rfl,
    ok_fun (ok_callV C (kx_w2_rcv E) (ci := 0) (Cn := RJx4a65c) (T := TJx4a65c) (N := 3) rfl (n := 0) gX2_firstToPress_Jx4a65c_size_8abf5 rfl (by decide +kernel) ⟨Nat.le_of_ble_eq_true rfl, Nat.le_of_ble_eq_true rfl⟩ dX2_firstToPress_6) (fun av M h => f2_Jx4a65c_size_8abf5_ok E h) (Or.inr (fun av M h => f2_Jx4a65c_size_8abf5_rc E h)),
    ok_ic_ge C dX2_firstToPress_9 (by decide),
    ok_aload_n C dX2_firstToPress_12 rfl,
    ok_iload_n C dX2_firstToPress_13 rfl,
    ok_fun (ok_callV C (kx_w2_rcv E) (ci := 0) (Cn := RJx4a65c) (T := TJx4a65c) (N := 3) rfl (n := 1) gX2_firstToPress_Jx4a65c_get_915e3 rfl (by decide +kernel) ⟨Nat.le_of_ble_eq_true rfl, Nat.le_of_ble_eq_true rfl⟩ dX2_firstToPress_14) (fun av M h => f2_Jx4a65c_get_915e3_ok E h) (Or.inr (fun av M h => f2_Jx4a65c_get_915e3_rc E h)),
    ok_cst C (ci := 7) (Cn := RX6) (T := TX6) (N := 8) (kx_w2_good E) rfl rfl mX2_firstToPress_0 dX2_firstToPress_17,
    ok_astore C dX2_firstToPress_20 (by decide),
    ok_aload_n C dX2_firstToPress_22 rfl,
    ok_aload C dX2_firstToPress_23,
    ok_fun (ok_callV C (kx_w2_rcv E) (ci := 3) (Cn := RX2) (T := TX2) (N := 10) rfl (n := 1) gX2_firstToPress_X2_fits rfl (by decide +kernel) ⟨Nat.le_of_ble_eq_true rfl, Nat.le_of_ble_eq_true rfl⟩ dX2_firstToPress_25) (fun av M h => f2_X2_fits_ok E h) (Or.inr (fun av M h => f2_X2_fits_rc E h)),
    ok_if_eq C dX2_firstToPress_28 (by decide),
    ok_aload_n C dX2_firstToPress_31 rfl,
    ok_ifnull C dX2_firstToPress_32 (by decide),
    ok_aload_n C dX2_firstToPress_35 rfl,
    ok_aload C dX2_firstToPress_36,
    ok_aload_n C dX2_firstToPress_38 rfl,
    ok_fun (ok_callV C (kx_w2_rcv E) (ci := 3) (Cn := RX2) (T := TX2) (N := 10) rfl (n := 2) gX2_firstToPress_X2_isAhead rfl (by decide +kernel) ⟨Nat.le_of_ble_eq_true rfl, Nat.le_of_ble_eq_true rfl⟩ dX2_firstToPress_39) (fun av M h => f2_X2_isAhead_ok E h) (Or.inr (fun av M h => f2_X2_isAhead_rc E h)),
    ok_if_eq C dX2_firstToPress_42 (by decide),
    ok_aload C dX2_firstToPress_45,
    ok_astore_n C dX2_firstToPress_47 rfl (by decide),
    ok_iinc C dX2_firstToPress_48 (by decide) (by decide),
    ok_gotoK C dX2_firstToPress_51 (by decide),
    ok_aload_n C dX2_firstToPress_54 rfl,
    ok_aret C hr (Or.inl ⟨_, rfl⟩) hl dX2_firstToPress_55, trivial⟩
