theorem mX2_isAhead_0 : Cond.fieldLink RX2 112 "Bloomclock$Order" "buyer" "LBloomclock$Buyer;" ∈ wsX2_isAhead := by decide +kernel
theorem hiX2_isAhead_7 : ∀ w ∈ u_ws RX6 TX6 8, w ∈ wsX2_isAhead := by decide +kernel
theorem mX2_isAhead_2 : Cond.fieldLink RX2 132 "Bloomclock$Buyer" "number" "I" ∈ wsX2_isAhead := by decide +kernel
theorem hiX2_isAhead_1 : ∀ w ∈ u_ws RX0 TX0 11, w ∈ wsX2_isAhead := by decide +kernel
abbrev c2t_X2_isAhead (E : kx_E) (av : List Value) (M : kx_M) (k ks : Nat) (Q : kx_Q) : Prop := kx_CT E (kx_w2 E) yX2_isAhead wsX2_isAhead 1 21 av M k ks Q
def cd_X2_isAhead (E : kx_E) : List (Nat × kx_T) := [
  (0, t_al 1 0),
  (1, t_al 2 1),
  (2, t_fun (f2_X2_stampOf E) 0 0 5 2),
  (5, t_is 6 3),
  (6, t_al 7 0),
  (7, t_al 8 2),
  (8, t_fun (f2_X2_stampOf E) 0 0 11 2),
  (11, t_is 13 4),
  (13, t_il 14 3),
  (14, t_il 16 4),
  (16, t_ic 19 42 (fun x y => x < y)),
  (19, t_il 20 3),
  (20, t_il 22 4),
  (22, t_ic 25 46 (fun x y => x ≠ y)),
  (25, t_al 26 1),
  (26, t_gR 29 8 140),
  (29, t_gI 32 2 20),
  (32, t_al 33 2),
  (33, t_gR 36 8 140),
  (36, t_gI 39 2 20),
  (39, t_ic 42 46 (fun x y => y ≤ x)),
  (42, t_push 43 (.int 1)),
  (43, t_go 47),
  (46, t_push 47 (.int 0)),
  (47, t_zret)]
set_option maxRecDepth 4000 in
theorem en_X2_isAhead (E : kx_E) {av : List Value} {M : kx_M} {k ks : Nat} {Qr : kx_Q} (hlen : (lg_sl av).length ≤ 5) (h : ∀ G : kx_K, kx_all G Qr (cd_X2_isAhead E) → G k ks 0 (lv_args 0 av) [] M) : c2t_X2_isAhead E av M k ks Qr := by
  refine kx_enter (by decide) rfl hlen (own := RX2) rfl (cd := cd_X2_isAhead E) ?_ h
  intro p e s m below meth c C hr hl hnm
  exact ⟨ok_aload_n C dX2_isAhead_0 rfl,
    ok_aload_n C dX2_isAhead_1 rfl,
    ok_fun (ok_callV C (kx_w2_rcv E) (ci := 3) (Cn := RX2) (T := TX2) (N := 10) rfl (n := 1) gX2_isAhead_X2_stampOf rfl (by decide +kernel) ⟨Nat.le_of_ble_eq_true rfl, Nat.le_of_ble_eq_true rfl⟩ dX2_isAhead_2) (fun av M h => f2_X2_stampOf_ok E h) (Or.inr (fun av M h => f2_X2_stampOf_rc E h)),
    ok_istore_n C dX2_isAhead_5 rfl (by decide),
    ok_aload_n C dX2_isAhead_6 rfl,
    ok_aload_n C dX2_isAhead_7 rfl,
    ok_fun (ok_callV C (kx_w2_rcv E) (ci := 3) (Cn := RX2) (T := TX2) (N := 10) rfl (n := 1) gX2_isAhead_X2_stampOf rfl (by decide +kernel) ⟨Nat.le_of_ble_eq_true rfl, Nat.le_of_ble_eq_true rfl⟩ dX2_isAhead_8) (fun av M h => f2_X2_stampOf_ok E h) (Or.inr (fun av M h => f2_X2_stampOf_rc E h)),
    ok_istore C dX2_isAhead_11 (by decide),
    ok_iload_n C dX2_isAhead_13 rfl,
    ok_iload C dX2_isAhead_14,
    ok_ic_lt C dX2_isAhead_16 (by decide),
    ok_iload_n C dX2_isAhead_19 rfl,
    ok_iload C dX2_isAhead_20,
    ok_ic_ne C dX2_isAhead_22 (by decide),
    ok_aload_n C dX2_isAhead_25 rfl,
    ok_gR C (ci := 7) (k := 0) (Cn := RX6) (T := TX6) (N := 8) (index := 112) (ref := "Bloomclock$Order") (kx_w2_good E) rfl rfl (by decide) hiX2_isAhead_7 mX2_isAhead_0 (fun _ h9 => h9) rfl dX2_isAhead_26,
    ok_gI C (ci := 1) (k := 0) (Cn := RX0) (T := TX0) (N := 11) (index := 132) (ref := "Bloomclock$Buyer") (kx_w2_good E) rfl rfl (by decide) hiX2_isAhead_1 mX2_isAhead_2 (fun _ h9 => h9) rfl dX2_isAhead_29,
    ok_aload_n C dX2_isAhead_32 rfl,
    ok_gR C (ci := 7) (k := 0) (Cn := RX6) (T := TX6) (N := 8) (index := 112) (ref := "Bloomclock$Order") (kx_w2_good E) rfl rfl (by decide) hiX2_isAhead_7 mX2_isAhead_0 (fun _ h9 => h9) rfl dX2_isAhead_33,
    ok_gI C (ci := 1) (k := 0) (Cn := RX0) (T := TX0) (N := 11) (index := 132) (ref := "Bloomclock$Buyer") (kx_w2_good E) rfl rfl (by decide) hiX2_isAhead_1 mX2_isAhead_2 (fun _ h9 => h9) rfl dX2_isAhead_36,
    ok_ic_ge C dX2_isAhead_39 (by decide),
    ok_iconst C dX2_isAhead_42 (by decide),
    ok_goto C dX2_isAhead_43 (by decide),
    ok_iconst C dX2_isAhead_46 (by decide),
    ok_zret C hr hl dX2_isAhead_47, trivial⟩

theorem mX2_take_0 : Cond.initialized RX9 ∈ wsX2_take := by decide +kernel
theorem mX2_take_1 : Cond.static yX9_bucketsFor ∈ wsX2_take := by decide +kernel
theorem mX2_take_2 : Cond.fieldLink RX2 59 "Bloomclock$ClockRun" "bucketsLeft" "I" ∈ wsX2_take := by decide +kernel
theorem hiX2_take_3 : ∀ w ∈ u_ws RX2 TX2 10, w ∈ wsX2_take := by decide +kernel
theorem mX2_take_4 : Cond.methodLink RX2 25 Lib.Math.min.name ∈ wsX2_take := by decide +kernel
theorem mX2_take_5 : Cond.static Lib.Math.min.name ∈ wsX2_take := by decide +kernel
theorem mX2_take_6 : Cond.initialized "java/lang/Math" ∈ wsX2_take := by decide +kernel
theorem mX2_take_7 : Cond.code Lib.Math.min.name Lib.Math.min.code 2 (some .int) ∈ wsX2_take := by decide +kernel
theorem mX2_take_8 : Cond.fieldLink RX2 142 "Bloomclock$ClockRun" "stems" "I" ∈ wsX2_take := by decide +kernel
theorem mX2_take_9 : Cond.fieldLink RX2 143 "Bloomclock$ClockRun" "price" "I" ∈ wsX2_take := by decide +kernel
theorem mX2_take_10 : Cond.fieldLink RX2 101 "Bloomclock$Order" "open" "I" ∈ wsX2_take := by decide +kernel
theorem hiX2_take_7 : ∀ w ∈ u_ws RX6 TX6 8, w ∈ wsX2_take := by decide +kernel
theorem mX2_take_12 : Cond.fieldLink RX2 112 "Bloomclock$Order" "buyer" "LBloomclock$Buyer;" ∈ wsX2_take := by decide +kernel
theorem mX2_take_13 : Cond.fieldLink RX2 77 "Bloomclock$Buyer" "purse" "I" ∈ wsX2_take := by decide +kernel
theorem hiX2_take_1 : ∀ w ∈ u_ws RX0 TX0 11, w ∈ wsX2_take := by decide +kernel
theorem mX2_take_15 : Cond.fieldLink RX2 53 "Bloomclock$ClockRun" "stemsLeft" "I" ∈ wsX2_take := by decide +kernel
theorem mX2_take_16 : Cond.fieldLink RX2 47 "Bloomclock$ClockRun" "start" "I" ∈ wsX2_take := by decide +kernel
abbrev c2t_X2_take (E : kx_E) (av : List Value) (M : kx_M) (k ks : Nat) (Q : kx_Q) : Prop := kx_CT E (kx_w2 E) yX2_take wsX2_take 1 21 av M k ks Q
def cd_X2_take (E : kx_E) : List (Nat × kx_T) := [
  (0, t_il 1 2),
  (1, t_fun (f2_X9_bucketsFor E) 0 0 4 1),
  (4, t_al 5 0),
  (5, t_gI 8 4 67),
  (8, t_mm 11 (fun x y => if y < x then y else x)),
  (11, t_is 13 4),
  (13, t_al 14 0),
  (14, t_il 15 2),
  (15, t_pI 18 4 68),
  (18, t_al 19 0),
  (19, t_il 20 3),
  (20, t_pI 23 4 69),
  (23, t_al 24 1),
  (24, t_dup 25),
  (25, t_gI 28 8 147),
  (28, t_il 29 2),
  (29, t_bin 30 (fun x y => x - y)),
  (30, t_pI 33 8 147),
  (33, t_al 34 1),
  (34, t_gR 37 8 140),
  (37, t_dup 38),
  (38, t_gI 41 2 28),
  (41, t_il 42 3),
  (42, t_il 43 2),
  (43, t_bin 44 (fun x y => x * y)),
  (44, t_push 45 (.int 2)),
  (45, t_il 47 4),
  (47, t_bin 48 (fun x y => x * y)),
  (48, t_bin 49 (fun x y => x + y)),
  (49, t_bin 50 (fun x y => x - y)),
  (50, t_pI 53 2 28),
  (53, t_al 54 0),
  (54, t_dup 55),
  (55, t_gI 58 4 66),
  (58, t_il 59 2),
  (59, t_bin 60 (fun x y => x - y)),
  (60, t_pI 63 4 66),
  (63, t_al 64 0),
  (64, t_dup 65),
  (65, t_gI 68 4 67),
  (68, t_il 70 4),
  (70, t_bin 71 (fun x y => x - y)),
  (71, t_pI 74 4 67),
  (74, t_al 75 0),
  (75, t_push 77 (.int 99)),
  (77, t_il 78 3),
  (78, t_push 80 (.int 10)),
  (80, t_bin 81 (fun x y => x + y)),
  (81, t_mm 84 (fun x y => if y < x then y else x)),
  (84, t_pI 87 4 65),
  (87, t_vret)]
set_option maxRecDepth 4000 in
theorem en_X2_take (E : kx_E) {av : List Value} {M : kx_M} {k ks : Nat} {Qr : kx_Q} (hlen : (lg_sl av).length ≤ 5) (h : ∀ G : kx_K, kx_all G Qr (cd_X2_take E) → G k ks 0 (lv_args 0 av) [] M) : c2t_X2_take E av M k ks Qr := by
  refine kx_enter (by decide) rfl hlen (own := RX2) rfl (cd := cd_X2_take E) ?_ h
  intro p e s m below meth c C hr hl hnm
  exact ⟨ok_iload_n C dX2_take_0 rfl,
    ok_fun (ok_callSN C (n := 1) (i := 2) rfl gX2_take_X9_bucketsFor_n138 rfl mX2_take_0 mX2_take_1 (by decide +kernel) ⟨Nat.le_of_ble_eq_true rfl, Nat.le_of_ble_eq_true rfl⟩ dX2_take_1) (fun av M h => f2_X9_bucketsFor_ok E h) (Or.inl rfl),
    ok_aload_n C dX2_take_4 rfl,
    ok_gI C (ci := 3) (k := 7) (Cn := RX2) (T := TX2) (N := 10) (index := 59) (ref := "Bloomclock$ClockRun") (kx_w2_good E) rfl rfl (by decide) hiX2_take_3 mX2_take_2 (fun _ h9 => h9) rfl dX2_take_5,
    ok_min C mX2_take_4 mX2_take_5 mX2_take_6 mX2_take_7 ⟨Nat.le_of_ble_eq_true rfl, Nat.le_of_ble_eq_true rfl⟩ dX2_take_8,
    ok_istore C dX2_take_11 (by decide),
    ok_aload_n C dX2_take_13 rfl,
    ok_iload_n C dX2_take_14 rfl,
    ok_pI C (ci := 3) (k := 8) (Cn := RX2) (T := TX2) (N := 10) (index := 142) (ref := "Bloomclock$ClockRun") (kx_w2_good E) rfl rfl (by decide) hiX2_take_3 mX2_take_8 (fun _ h9 => h9) tyX2 tyX2_ok nmX2 rfl (by decide +kernel) rfl dX2_take_15,
    ok_aload_n C dX2_take_18 rfl,
    ok_iload_n C dX2_take_19 rfl,
    ok_pI C (ci := 3) (k := 9) (Cn := RX2) (T := TX2) (N := 10) (index := 143) (ref := "Bloomclock$ClockRun") (kx_w2_good E) rfl rfl (by decide) hiX2_take_3 mX2_take_9 (fun _ h9 => h9) tyX2 tyX2_ok nmX2 rfl (by decide +kernel) rfl dX2_take_20,
    ok_aload_n C dX2_take_23 rfl,
    ok_dup C dX2_take_24,
    ok_gI C (ci := 7) (k := 7) (Cn := RX6) (T := TX6) (N := 8) (index := 101) (ref := "Bloomclock$Order") (kx_w2_good E) rfl rfl (by decide) hiX2_take_7 mX2_take_10 (fun _ h9 => h9) rfl dX2_take_25,
    ok_iload_n C dX2_take_28 rfl,
    ok_isub C dX2_take_29,
    ok_pI C (ci := 7) (k := 7) (Cn := RX6) (T := TX6) (N := 8) (index := 101) (ref := "Bloomclock$Order") (kx_w2_good E) rfl rfl (by decide) hiX2_take_7 mX2_take_10 (fun _ h9 => h9) tyX6 tyX6_ok nmX6 rfl (by decide +kernel) rfl dX2_take_30,
    ok_aload_n C dX2_take_33 rfl,
    ok_gR C (ci := 7) (k := 0) (Cn := RX6) (T := TX6) (N := 8) (index := 112) (ref := "Bloomclock$Order") (kx_w2_good E) rfl rfl (by decide) hiX2_take_7 mX2_take_12 (fun _ h9 => h9) rfl dX2_take_34,
    ok_dup C dX2_take_37,
    ok_gI C (ci := 1) (k := 8) (Cn := RX0) (T := TX0) (N := 11) (index := 77) (ref := "Bloomclock$Buyer") (kx_w2_good E) rfl rfl (by decide) hiX2_take_1 mX2_take_13 (fun _ h9 => h9) rfl dX2_take_38,
    ok_iload_n C dX2_take_41 rfl,
    ok_iload_n C dX2_take_42 rfl,
    ok_imul C dX2_take_43,
    ok_iconst C dX2_take_44 (by decide),
    ok_iload C dX2_take_45,
    ok_imul C dX2_take_47,
    ok_iadd C dX2_take_48,
    ok_isub C dX2_take_49,
    ok_pI C (ci := 1) (k := 8) (Cn := RX0) (T := TX0) (N := 11) (index := 77) (ref := "Bloomclock$Buyer") (kx_w2_good E) rfl rfl (by decide) hiX2_take_1 mX2_take_13 (fun _ h9 => h9) tyX0 tyX0_ok nmX0 rfl (by decide +kernel) rfl dX2_take_50,
    ok_aload_n C dX2_take_53 rfl,
    ok_dup C dX2_take_54,
    ok_gI C (ci := 3) (k := 6) (Cn := RX2) (T := TX2) (N := 10) (index := 53) (ref := "Bloomclock$ClockRun") (kx_w2_good E) rfl rfl (by decide) hiX2_take_3 mX2_take_15 (fun _ h9 => h9) rfl dX2_take_55,
    ok_iload_n C dX2_take_58 rfl,
    ok_isub C dX2_take_59,
    ok_pI C (ci := 3) (k := 6) (Cn := RX2) (T := TX2) (N := 10) (index := 53) (ref := "Bloomclock$ClockRun") (kx_w2_good E) rfl rfl (by decide) hiX2_take_3 mX2_take_15 (fun _ h9 => h9) tyX2 tyX2_ok nmX2 rfl (by decide +kernel) rfl dX2_take_60,
    ok_aload_n C dX2_take_63 rfl,
    ok_dup C dX2_take_64,
    ok_gI C (ci := 3) (k := 7) (Cn := RX2) (T := TX2) (N := 10) (index := 59) (ref := "Bloomclock$ClockRun") (kx_w2_good E) rfl rfl (by decide) hiX2_take_3 mX2_take_2 (fun _ h9 => h9) rfl dX2_take_65,
    ok_iload C dX2_take_68,
    ok_isub C dX2_take_70,
    ok_pI C (ci := 3) (k := 7) (Cn := RX2) (T := TX2) (N := 10) (index := 59) (ref := "Bloomclock$ClockRun") (kx_w2_good E) rfl rfl (by decide) hiX2_take_3 mX2_take_2 (fun _ h9 => h9) tyX2 tyX2_ok nmX2 rfl (by decide +kernel) rfl dX2_take_71,
    ok_aload_n C dX2_take_74 rfl,
    ok_bipush C dX2_take_75 (by decide),
    ok_iload_n C dX2_take_77 rfl,
    ok_bipush C dX2_take_78 (by decide),
    ok_iadd C dX2_take_80,
    ok_min C mX2_take_4 mX2_take_5 mX2_take_6 mX2_take_7 ⟨Nat.le_of_ble_eq_true rfl, Nat.le_of_ble_eq_true rfl⟩ dX2_take_81,
    ok_pI C (ci := 3) (k := 5) (Cn := RX2) (T := TX2) (N := 10) (index := 47) (ref := "Bloomclock$ClockRun") (kx_w2_good E) rfl rfl (by decide) hiX2_take_3 mX2_take_16 (fun _ h9 => h9) tyX2 tyX2_ok nmX2 rfl (by decide +kernel) rfl dX2_take_84,
    ok_vret C hr hl dX2_take_87, trivial⟩

theorem mX3_growBy_0 : Cond.fieldLink RX3 23 "Bloomclock$Crop" "sum" "I" ∈ wsX3_growBy := by decide +kernel
theorem hiX3_growBy_4 : ∀ w ∈ u_ws RX3 TX3 7, w ∈ wsX3_growBy := by decide +kernel
theorem mX3_growBy_2 : Cond.fieldLink RX3 26 "Bloomclock$Crop" "isReady" "Z" ∈ wsX3_growBy := by decide +kernel
theorem mX3_growBy_3 : Cond.fieldLink RX3 30 "Bloomclock$Crop" "age" "I" ∈ wsX3_growBy := by decide +kernel
theorem mX3_growBy_4 : Cond.fieldLink RX3 17 "Bloomclock$Crop" "cultivar" "I" ∈ wsX3_growBy := by decide +kernel
theorem mX3_growBy_5 : Cond.initialized RX9 ∈ wsX3_growBy := by decide +kernel
theorem mX3_growBy_6 : Cond.static yX9_sumAsked ∈ wsX3_growBy := by decide +kernel
abbrev c2t_X3_growBy (E : kx_E) (av : List Value) (M : kx_M) (k ks : Nat) (Q : kx_Q) : Prop := kx_CT E (kx_w2 E) yX3_growBy wsX3_growBy 1 20 av M k ks Q
def cd_X3_growBy (E : kx_E) : List (Nat × kx_T) := [
  (0, t_al 1 0),
  (1, t_dup 2),
  (2, t_gI 5 5 84),
  (5, t_il 6 1),
  (6, t_bin 7 (fun x y => x + y)),
  (7, t_pI 10 5 84),
  (10, t_al 11 0),
  (11, t_gI 14 5 85),
  (14, t_if 17 27 (fun x => x = 0)),
  (17, t_al 18 0),
  (18, t_dup 19),
  (19, t_gI 22 5 86),
  (22, t_push 23 (.int 1)),
  (23, t_bin 24 (fun x y => x + y)),
  (24, t_pI 27 5 86),
  (27, t_al 28 0),
  (28, t_al 29 0),
  (29, t_gI 32 5 85),
  (32, t_if 35 49 (fun x => x ≠ 0)),
  (35, t_al 36 0),
  (36, t_gI 39 5 84),
  (39, t_al 40 0),
  (40, t_gI 43 5 82),
  (43, t_fun (f2_X9_sumAsked E) 0 0 46 1),
  (46, t_ic 49 53 (fun x y => x < y)),
  (49, t_push 50 (.int 1)),
  (50, t_go 54),
  (53, t_push 54 (.int 0)),
  (54, t_pZ 57 5 85),
  (57, t_vret)]
set_option maxRecDepth 4000 in
theorem en_X3_growBy (E : kx_E) {av : List Value} {M : kx_M} {k ks : Nat} {Qr : kx_Q} (hlen : (lg_sl av).length ≤ 2) (h : ∀ G : kx_K, kx_all G Qr (cd_X3_growBy E) → G k ks 0 (lv_args 0 av) [] M) : c2t_X3_growBy E av M k ks Qr := by
  refine kx_enter (by decide) rfl hlen (own := RX3) rfl (cd := cd_X3_growBy E) ?_ h
  intro p e s m below meth c C hr hl hnm
  exact ⟨ok_aload_n C dX3_growBy_0 rfl,
    ok_dup C dX3_growBy_1,
    ok_gI C (ci := 4) (k := 4) (Cn := RX3) (T := TX3) (N := 7) (index := 23) (ref := "Bloomclock$Crop") (kx_w2_good E) rfl rfl (by decide) hiX3_growBy_4 mX3_growBy_0 (fun _ h9 => h9) rfl dX3_growBy_2,
    ok_iload_n C dX3_growBy_5 rfl,
    ok_iadd C dX3_growBy_6,
    ok_pI C (ci := 4) (k := 4) (Cn := RX3) (T := TX3) (N := 7) (index := 23) (ref := "Bloomclock$Crop") (kx_w2_good E) rfl rfl (by decide) hiX3_growBy_4 mX3_growBy_0 (fun _ h9 => h9) tyX3 tyX3_ok nmX3 rfl (by decide +kernel) rfl dX3_growBy_7,
    ok_aload_n C dX3_growBy_10 rfl,
    ok_gI C (ci := 4) (k := 5) (Cn := RX3) (T := TX3) (N := 7) (index := 26) (ref := "Bloomclock$Crop") (kx_w2_good E) rfl rfl (by decide) hiX3_growBy_4 mX3_growBy_2 (fun _ h9 => h9) rfl dX3_growBy_11,
    ok_if_eq C dX3_growBy_14 (by decide),
    ok_aload_n C dX3_growBy_17 rfl,
    ok_dup C dX3_growBy_18,
    ok_gI C (ci := 4) (k := 6) (Cn := RX3) (T := TX3) (N := 7) (index := 30) (ref := "Bloomclock$Crop") (kx_w2_good E) rfl rfl (by decide) hiX3_growBy_4 mX3_growBy_3 (fun _ h9 => h9) rfl dX3_growBy_19,
    ok_iconst C dX3_growBy_22 (by decide),
    ok_iadd C dX3_growBy_23,
    ok_pI C (ci := 4) (k := 6) (Cn := RX3) (T := TX3) (N := 7) (index := 30) (ref := "Bloomclock$Crop") (kx_w2_good E) rfl rfl (by decide) hiX3_growBy_4 mX3_growBy_3 (fun _ h9 => h9) tyX3 tyX3_ok nmX3 rfl (by decide +kernel) rfl dX3_growBy_24,
    ok_aload_n C dX3_growBy_27 rfl,
    ok_aload_n C dX3_growBy_28 rfl,
    ok_gI C (ci := 4) (k := 5) (Cn := RX3) (T := TX3) (N := 7) (index := 26) (ref := "Bloomclock$Crop") (kx_w2_good E) rfl rfl (by decide) hiX3_growBy_4 mX3_growBy_2 (fun _ h9 => h9) rfl dX3_growBy_29,
    ok_if_ne C dX3_growBy_32 (by decide),
    ok_aload_n C dX3_growBy_35 rfl,
    ok_gI C (ci := 4) (k := 4) (Cn := RX3) (T := TX3) (N := 7) (index := 23) (ref := "Bloomclock$Crop") (kx_w2_good E) rfl rfl (by decide) hiX3_growBy_4 mX3_growBy_0 (fun _ h9 => h9) rfl dX3_growBy_36,
    ok_aload_n C dX3_growBy_39 rfl,
    ok_gI C (ci := 4) (k := 2) (Cn := RX3) (T := TX3) (N := 7) (index := 17) (ref := "Bloomclock$Crop") (kx_w2_good E) rfl rfl (by decide) hiX3_growBy_4 mX3_growBy_4 (fun _ h9 => h9) rfl dX3_growBy_40,
    ok_fun (ok_callSN C (n := 1) (i := 3) rfl gX3_growBy_X9_sumAsked_n33 rfl mX3_growBy_5 mX3_growBy_6 (by decide +kernel) ⟨Nat.le_of_ble_eq_true rfl, Nat.le_of_ble_eq_true rfl⟩ dX3_growBy_43) (fun av M h => f2_X9_sumAsked_ok E h) (Or.inl rfl),
    ok_ic_lt C dX3_growBy_46 (by decide),
    ok_iconst C dX3_growBy_49 (by decide),
    ok_goto C dX3_growBy_50 (by decide),
    ok_iconst C dX3_growBy_53 (by decide),
    ok_pZ C (ci := 4) (k := 5) (Cn := RX3) (T := TX3) (N := 7) (index := 26) (ref := "Bloomclock$Crop") (kx_w2_good E) rfl rfl (by decide) hiX3_growBy_4 mX3_growBy_2 (fun _ h9 => h9) tyX3 tyX3_ok nmX3 rfl (by decide +kernel) rfl dX3_growBy_54,
    ok_vret C hr hl dX3_growBy_57, trivial⟩

theorem mX5_init_0 : Cond.methodLink RX5 3 objectInit ∈ wsX5_init := by decide +kernel
theorem mX5_init_1 : Cond.instanceMethod objectInit ∈ wsX5_init := by decide +kernel
theorem mX5_init_2 : Cond.code objectInit ⟨#[0xb1]⟩ 1 none ∈ wsX5_init := by decide +kernel
theorem mX5_init_3 : Cond.fieldLink RX5 9 "Bloomclock$Lot" "place" "I" ∈ wsX5_init := by decide +kernel
theorem hiX5_init_6 : ∀ w ∈ u_ws RX5 TX5 12, w ∈ wsX5_init := by decide +kernel
theorem mX5_init_5 : Cond.fieldLink RX5 15 "Bloomclock$Lot" "state" "I" ∈ wsX5_init := by decide +kernel
theorem mX5_init_6 : Cond.fieldLink RX5 18 "Bloomclock$Lot" "told" "I" ∈ wsX5_init := by decide +kernel
theorem mX5_init_7 : Cond.fieldLink RX5 21 "Bloomclock$Lot" "minimum" "I" ∈ wsX5_init := by decide +kernel
theorem mX5_init_8 : Cond.fieldLink RX5 24 "Bloomclock$Lot" "number" "I" ∈ wsX5_init := by decide +kernel
theorem mX5_init_9 : Cond.fieldLink RX5 27 "Bloomclock$Crop" "grower" "LBloomclock$Grower;" ∈ wsX5_init := by decide +kernel
theorem hiX5_init_4 : ∀ w ∈ u_ws RX3 TX3 7, w ∈ wsX5_init := by decide +kernel
theorem mX5_init_11 : Cond.fieldLink RX5 33 "Bloomclock$Lot" "grower" "LBloomclock$Grower;" ∈ wsX5_init := by decide +kernel
theorem mX5_init_12 : Cond.fieldLink RX5 34 "Bloomclock$Crop" "growerNumber" "I" ∈ wsX5_init := by decide +kernel
theorem mX5_init_13 : Cond.fieldLink RX5 37 "Bloomclock$Lot" "growerNumber" "I" ∈ wsX5_init := by decide +kernel
theorem mX5_init_14 : Cond.fieldLink RX5 38 "Bloomclock$Crop" "cultivar" "I" ∈ wsX5_init := by decide +kernel
theorem mX5_init_15 : Cond.fieldLink RX5 41 "Bloomclock$Lot" "cultivar" "I" ∈ wsX5_init := by decide +kernel
theorem mX5_init_16 : Cond.fieldLink RX5 42 "Bloomclock$Crop" "age" "I" ∈ wsX5_init := by decide +kernel
theorem mX5_init_17 : Cond.fieldLink RX5 45 "Bloomclock$Lot" "grade" "I" ∈ wsX5_init := by decide +kernel
theorem mX5_init_18 : Cond.fieldLink RX5 48 "Bloomclock$Lot" "stems" "I" ∈ wsX5_init := by decide +kernel
theorem mX5_init_19 : Cond.initialized RX9 ∈ wsX5_init := by decide +kernel
theorem mX5_init_20 : Cond.static yX9_freshLife ∈ wsX5_init := by decide +kernel
theorem mX5_init_21 : Cond.methodLink RX5 55 Lib.Math.max.name ∈ wsX5_init := by decide +kernel
theorem mX5_init_22 : Cond.static Lib.Math.max.name ∈ wsX5_init := by decide +kernel
theorem mX5_init_23 : Cond.initialized "java/lang/Math" ∈ wsX5_init := by decide +kernel
theorem mX5_init_24 : Cond.code Lib.Math.max.name Lib.Math.max.code 2 (some .int) ∈ wsX5_init := by decide +kernel
theorem mX5_init_25 : Cond.fieldLink RX5 61 "Bloomclock$Lot" "life" "I" ∈ wsX5_init := by decide +kernel
theorem mX5_init_26 : Cond.fieldLink RX5 64 "Bloomclock$Lot" "buckets" "I" ∈ wsX5_init := by decide +kernel
abbrev c2t_X5_init (E : kx_E) (av : List Value) (M : kx_M) (k ks : Nat) (Q : kx_Q) : Prop := kx_CT E (kx_w2 E) yX5_init wsX5_init 1 21 av M k ks Q
def cd_X5_init (E : kx_E) : List (Nat × kx_T) := [
  (0, t_al 1 0),
  (1, t_oin 4),
  (4, t_al 5 0),
  (5, t_push 6 (.int 1)),
  (6, t_pI 9 7 128),
  (9, t_al 10 0),
  (10, t_push 11 (.int 0)),
  (11, t_pI 14 7 129),
  (14, t_al 15 0),
  (15, t_push 16 (.int (-1))),
  (16, t_pI 19 7 130),
  (19, t_al 20 0),
  (20, t_push 21 (.int (-1))),
  (21, t_pI 24 7 131),
  (24, t_al 25 0),
  (25, t_il 26 1),
  (26, t_pI 29 7 120),
  (29, t_al 30 0),
  (30, t_al 31 2),
  (31, t_gR 34 5 80),
  (34, t_pR 37 7 121),
  (37, t_al 38 0),
  (38, t_al 39 2),
  (39, t_gI 42 5 81),
  (42, t_pI 45 7 122),
  (45, t_al 46 0),
  (46, t_al 47 2),
  (47, t_gI 50 5 82),
  (50, t_pI 53 7 123),
  (53, t_al 54 0),
  (54, t_al 55 2),
  (55, t_gI 58 5 86),
  (58, t_push 60 (.int 10)),
  (60, t_ic 63 67 (fun x y => y < x)),
  (63, t_push 64 (.int 0)),
  (64, t_go 81),
  (67, t_al 68 2),
  (68, t_gI 71 5 86),
  (71, t_push 73 (.int 20)),
  (73, t_ic 76 80 (fun x y => y < x)),
  (76, t_push 77 (.int 1)),
  (77, t_go 81),
  (80, t_push 81 (.int 2)),
  (81, t_pI 84 7 124),
  (84, t_al 85 0),
  (85, t_il 86 3),
  (86, t_pI 89 7 125),
  (89, t_al 90 0),
  (90, t_push 91 (.int 0)),
  (91, t_al 92 2),
  (92, t_gI 95 5 82),
  (95, t_fun (f2_X9_freshLife E) 0 0 98 1),
  (98, t_push 99 (.int 2)),
  (99, t_al 100 2),
  (100, t_gI 103 5 86),
  (103, t_bin 104 (fun x y => x * y)),
  (104, t_bin 105 (fun x y => x - y)),
  (105, t_mm 108 (fun x y => if x < y then y else x)),
  (108, t_pI 111 7 126),
  (111, t_al 112 0),
  (112, t_il 114 4),
  (114, t_pI 117 7 127),
  (117, t_vret)]
set_option maxRecDepth 4000 in
theorem en_X5_init (E : kx_E) {av : List Value} {M : kx_M} {k ks : Nat} {Qr : kx_Q} (hlen : (lg_sl av).length ≤ 5) (h : ∀ G : kx_K, kx_all G Qr (cd_X5_init E) → G k ks 0 (lv_args 0 av) [] M) : c2t_X5_init E av M k ks Qr := by
  refine kx_enter (by decide) rfl hlen (own := RX5) rfl (cd := cd_X5_init E) ?_ h
  intro p e s m below meth c C hr hl hnm
  exact ⟨ok_aload_n C dX5_init_0 rfl,
    ok_oin C mX5_init_0 mX5_init_1 mX5_init_2 ⟨Nat.le_of_ble_eq_true rfl, Nat.le_of_ble_eq_true rfl⟩ dX5_init_1,
    ok_aload_n C dX5_init_4 rfl,
    ok_iconst C dX5_init_5 (by decide),
    ok_pI C (ci := 6) (k := 8) (Cn := RX5) (T := TX5) (N := 12) (index := 9) (ref := "Bloomclock$Lot") (kx_w2_good E) rfl rfl (by decide) hiX5_init_6 mX5_init_3 (fun _ h9 => h9) tyX5 tyX5_ok nmX5 rfl (by decide +kernel) rfl dX5_init_6,
    ok_aload_n C dX5_init_9 rfl,
    ok_iconst C dX5_init_10 (by decide),
    ok_pI C (ci := 6) (k := 9) (Cn := RX5) (T := TX5) (N := 12) (index := 15) (ref := "Bloomclock$Lot") (kx_w2_good E) rfl rfl (by decide) hiX5_init_6 mX5_init_5 (fun _ h9 => h9) tyX5 tyX5_ok nmX5 rfl (by decide +kernel) rfl dX5_init_11,
    ok_aload_n C dX5_init_14 rfl,
    ok_iconst C dX5_init_15 (by decide),
    ok_pI C (ci := 6) (k := 10) (Cn := RX5) (T := TX5) (N := 12) (index := 18) (ref := "Bloomclock$Lot") (kx_w2_good E) rfl rfl (by decide) hiX5_init_6 mX5_init_6 (fun _ h9 => h9) tyX5 tyX5_ok nmX5 rfl (by decide +kernel) rfl dX5_init_16,
    ok_aload_n C dX5_init_19 rfl,
    ok_iconst C dX5_init_20 (by decide),
    ok_pI C (ci := 6) (k := 11) (Cn := RX5) (T := TX5) (N := 12) (index := 21) (ref := "Bloomclock$Lot") (kx_w2_good E) rfl rfl (by decide) hiX5_init_6 mX5_init_7 (fun _ h9 => h9) tyX5 tyX5_ok nmX5 rfl (by decide +kernel) rfl dX5_init_21,
    ok_aload_n C dX5_init_24 rfl,
    ok_iload_n C dX5_init_25 rfl,
    ok_pIF C (ci := 6) (k := 0) (Cn := RX5) (T := TX5) (N := 12) (index := 24) (ref := "Bloomclock$Lot") (kx_w2_good E) rfl rfl (by decide) hiX5_init_6 mX5_init_8 (fun _ h9 => h9) tyX5 tyX5_ok nmX5 rfl (by decide +kernel) rfl (hnm.trans rfl) rfl dX5_init_26,
    ok_aload_n C dX5_init_29 rfl,
    ok_aload_n C dX5_init_30 rfl,
    ok_gR C (ci := 4) (k := 0) (Cn := RX3) (T := TX3) (N := 7) (index := 27) (ref := "Bloomclock$Crop") (kx_w2_good E) rfl rfl (by decide) hiX5_init_4 mX5_init_9 (fun _ h9 => h9) rfl dX5_init_31,
    ok_pRF C (ci := 6) (k := 1) (Cn := RX5) (T := TX5) (N := 12) (index := 33) (ref := "Bloomclock$Lot") (kx_w2_good E) rfl rfl (by decide) hiX5_init_6 mX5_init_11 (fun _ h9 => h9) tyX5 tyX5_ok nmX5 rfl (ty := (.object "Bloomclock$Grower")) (by decide +kernel) (fun o => by cases o <;> exact ⟨rfl, rfl⟩) rfl (hnm.trans rfl) rfl dX5_init_34,
    ok_aload_n C dX5_init_37 rfl,
    ok_aload_n C dX5_init_38 rfl,
    ok_gI C (ci := 4) (k := 1) (Cn := RX3) (T := TX3) (N := 7) (index := 34) (ref := "Bloomclock$Crop") (kx_w2_good E) rfl rfl (by decide) hiX5_init_4 mX5_init_12 (fun _ h9 => h9) rfl dX5_init_39,
    ok_pIF C (ci := 6) (k := 2) (Cn := RX5) (T := TX5) (N := 12) (index := 37) (ref := "Bloomclock$Lot") (kx_w2_good E) rfl rfl (by decide) hiX5_init_6 mX5_init_13 (fun _ h9 => h9) tyX5 tyX5_ok nmX5 rfl (by decide +kernel) rfl (hnm.trans rfl) rfl dX5_init_42,
    ok_aload_n C dX5_init_45 rfl,
    ok_aload_n C dX5_init_46 rfl,
    ok_gI C (ci := 4) (k := 2) (Cn := RX3) (T := TX3) (N := 7) (index := 38) (ref := "Bloomclock$Crop") (kx_w2_good E) rfl rfl (by decide) hiX5_init_4 mX5_init_14 (fun _ h9 => h9) rfl dX5_init_47,
    ok_pIF C (ci := 6) (k := 3) (Cn := RX5) (T := TX5) (N := 12) (index := 41) (ref := "Bloomclock$Lot") (kx_w2_good E) rfl rfl (by decide) hiX5_init_6 mX5_init_15 (fun _ h9 => h9) tyX5 tyX5_ok nmX5 rfl (by decide +kernel) rfl (hnm.trans rfl) rfl dX5_init_50,
    ok_aload_n C dX5_init_53 rfl,
    ok_aload_n C dX5_init_54 rfl,
    ok_gI C (ci := 4) (k := 6) (Cn := RX3) (T := TX3) (N := 7) (index := 42) (ref := "Bloomclock$Crop") (kx_w2_good E) rfl rfl (by decide) hiX5_init_4 mX5_init_16 (fun _ h9 => h9) rfl dX5_init_55,
    ok_bipush C dX5_init_58 (by decide),
    ok_ic_gt C dX5_init_60 (by decide),
    ok_iconst C dX5_init_63 (by decide),
    ok_goto C dX5_init_64 (by decide),
    ok_aload_n C dX5_init_67 rfl,
    ok_gI C (ci := 4) (k := 6) (Cn := RX3) (T := TX3) (N := 7) (index := 42) (ref := "Bloomclock$Crop") (kx_w2_good E) rfl rfl (by decide) hiX5_init_4 mX5_init_16 (fun _ h9 => h9) rfl dX5_init_68,
    ok_bipush C dX5_init_71 (by decide),
    ok_ic_gt C dX5_init_73 (by decide),
    ok_iconst C dX5_init_76 (by decide),
    ok_goto C dX5_init_77 (by decide),
    ok_iconst C dX5_init_80 (by decide),
    ok_pIF C (ci := 6) (k := 4) (Cn := RX5) (T := TX5) (N := 12) (index := 45) (ref := "Bloomclock$Lot") (kx_w2_good E) rfl rfl (by decide) hiX5_init_6 mX5_init_17 (fun _ h9 => h9) tyX5 tyX5_ok nmX5 rfl (by decide +kernel) rfl (hnm.trans rfl) rfl dX5_init_81,
    ok_aload_n C dX5_init_84 rfl,
    ok_iload_n C dX5_init_85 rfl,
    ok_pI C (ci := 6) (k := 5) (Cn := RX5) (T := TX5) (N := 12) (index := 48) (ref := "Bloomclock$Lot") (kx_w2_good E) rfl rfl (by decide) hiX5_init_6 mX5_init_18 (fun _ h9 => h9) tyX5 tyX5_ok nmX5 rfl (by decide +kernel) rfl dX5_init_86,
    ok_aload_n C dX5_init_89 rfl,
    ok_iconst C dX5_init_90 (by decide),
    ok_aload_n C dX5_init_91 rfl,
    ok_gI C (ci := 4) (k := 2) (Cn := RX3) (T := TX3) (N := 7) (index := 38) (ref := "Bloomclock$Crop") (kx_w2_good E) rfl rfl (by decide) hiX5_init_4 mX5_init_14 (fun _ h9 => h9) rfl dX5_init_92,
    ok_fun (ok_callSN C (n := 1) (i := 4) rfl gX5_init_X9_freshLife_n51 rfl mX5_init_19 mX5_init_20 (by decide +kernel) ⟨Nat.le_of_ble_eq_true rfl, Nat.le_of_ble_eq_true rfl⟩ dX5_init_95) (fun av M h => f2_X9_freshLife_ok E h) (Or.inl rfl),
    ok_iconst C dX5_init_98 (by decide),
    ok_aload_n C dX5_init_99 rfl,
    ok_gI C (ci := 4) (k := 6) (Cn := RX3) (T := TX3) (N := 7) (index := 42) (ref := "Bloomclock$Crop") (kx_w2_good E) rfl rfl (by decide) hiX5_init_4 mX5_init_16 (fun _ h9 => h9) rfl dX5_init_100,
    ok_imul C dX5_init_103,
    ok_isub C dX5_init_104,
    ok_max C mX5_init_21 mX5_init_22 mX5_init_23 mX5_init_24 ⟨Nat.le_of_ble_eq_true rfl, Nat.le_of_ble_eq_true rfl⟩ dX5_init_105,
    ok_pI C (ci := 6) (k := 6) (Cn := RX5) (T := TX5) (N := 12) (index := 61) (ref := "Bloomclock$Lot") (kx_w2_good E) rfl rfl (by decide) hiX5_init_6 mX5_init_25 (fun _ h9 => h9) tyX5 tyX5_ok nmX5 rfl (by decide +kernel) rfl dX5_init_108,
    ok_aload_n C dX5_init_111 rfl,
    ok_iload C dX5_init_112,
    ok_pI C (ci := 6) (k := 7) (Cn := RX5) (T := TX5) (N := 12) (index := 64) (ref := "Bloomclock$Lot") (kx_w2_good E) rfl rfl (by decide) hiX5_init_6 mX5_init_26 (fun _ h9 => h9) tyX5 tyX5_ok nmX5 rfl (by decide +kernel) rfl dX5_init_114,
    ok_vret C hr hl dX5_init_117, trivial⟩
