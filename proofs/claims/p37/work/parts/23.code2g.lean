theorem mX9_firstPriceOf_0 : Cond.fieldLink RX9 49 "Bloomclock" "run" "LBloomclock$ClockRun;" ∈ wsX9_firstPriceOf := by decide +kernel
theorem hiX9_firstPriceOf_10 : ∀ w ∈ u_ws RX9 TX9 18, w ∈ wsX9_firstPriceOf := by decide +kernel
theorem mX9_firstPriceOf_2 : Cond.fieldLink RX9 191 "Bloomclock$Lot" "life" "I" ∈ wsX9_firstPriceOf := by decide +kernel
theorem hiX9_firstPriceOf_6 : ∀ w ∈ u_ws RX5 TX5 12, w ∈ wsX9_firstPriceOf := by decide +kernel
theorem mX9_firstPriceOf_4 : Cond.fieldLink RX9 25 "Bloomclock" "buyers" "Ljava/util/ArrayList;" ∈ wsX9_firstPriceOf := by decide +kernel
theorem mX9_firstPriceOf_5 : Cond.fieldLink RX9 28 "Bloomclock" "orders" "Ljava/util/ArrayList;" ∈ wsX9_firstPriceOf := by decide +kernel
theorem mX9_firstPriceOf_6 : Cond.fieldLink RX9 260 "Bloomclock$ClockRun" "price" "I" ∈ wsX9_firstPriceOf := by decide +kernel
theorem hiX9_firstPriceOf_3 : ∀ w ∈ u_ws RX2 TX2 10, w ∈ wsX9_firstPriceOf := by decide +kernel
abbrev c2t_X9_firstPriceOf (E : kx_E) (av : List Value) (M : kx_M) (k ks : Nat) (Q : kx_Q) : Prop := kx_CT E (kx_w2 E) yX9_firstPriceOf wsX9_firstPriceOf 5 114 av M k ks Q
def cd_X9_firstPriceOf (E : kx_E) : List (Nat × kx_T) := [
  (0, t_al 1 0),
  (1, t_gR 4 11 209),
  (4, t_al 5 1),
  (5, t_al 6 1),
  (6, t_gI 9 7 126),
  (9, t_push 10 (.int 1)),
  (10, t_al 11 0),
  (11, t_gR 14 11 204),
  (14, t_al 15 0),
  (15, t_gR 18 11 205),
  (18, t_fun (f2_X2_begin E) 0 0 21 6),
  (21, t_al 22 0),
  (22, t_gR 25 11 209),
  (25, t_al 26 0),
  (26, t_gR 29 11 205),
  (29, t_fun (f2_X2_nextTaker E) 0 0 32 2),
  (32, t_nul 35 39),
  (35, t_push 36 (.int (-1))),
  (36, t_go 46),
  (39, t_al 40 0),
  (40, t_gR 43 11 209),
  (43, t_gI 46 4 69),
  (46, t_iret)]
set_option maxRecDepth 4000 in
theorem en_X9_firstPriceOf (E : kx_E) {av : List Value} {M : kx_M} {k ks : Nat} {Qr : kx_Q} (hlen : (lg_sl av).length ≤ 2) (h : ∀ G : kx_K, kx_all G Qr (cd_X9_firstPriceOf E) → G k ks 0 (lv_args 0 av) [] M) : c2t_X9_firstPriceOf E av M k ks Qr := by
  refine kx_enter (by decide) rfl hlen (own := RX9) rfl (cd := cd_X9_firstPriceOf E) ?_ h
  intro p e s m below meth c C hr hl hnm
  exact ⟨ok_aload_n C dX9_firstPriceOf_0 rfl,
    ok_gR C (ci := 10) (k := 9) (Cn := RX9) (T := TX9) (N := 18) (index := 49) (ref := "Bloomclock") (kx_w2_good E) rfl rfl (by decide) hiX9_firstPriceOf_10 mX9_firstPriceOf_0 (fun _ h9 => h9) rfl dX9_firstPriceOf_1,
    ok_aload_n C dX9_firstPriceOf_4 rfl,
    ok_aload_n C dX9_firstPriceOf_5 rfl,
    ok_gI C (ci := 6) (k := 6) (Cn := RX5) (T := TX5) (N := 12) (index := 191) (ref := "Bloomclock$Lot") (kx_w2_good E) rfl rfl (by decide) hiX9_firstPriceOf_6 mX9_firstPriceOf_2 (fun _ h9 => h9) rfl dX9_firstPriceOf_6,
    ok_iconst C dX9_firstPriceOf_9 (by decide),
    ok_aload_n C dX9_firstPriceOf_10 rfl,
    ok_gR C (ci := 10) (k := 4) (Cn := RX9) (T := TX9) (N := 18) (index := 25) (ref := "Bloomclock") (kx_w2_good E) rfl rfl (by decide) hiX9_firstPriceOf_10 mX9_firstPriceOf_4 (fun _ h9 => h9) rfl dX9_firstPriceOf_11,
    ok_aload_n C dX9_firstPriceOf_14 rfl,
    ok_gR C (ci := 10) (k := 5) (Cn := RX9) (T := TX9) (N := 18) (index := 28) (ref := "Bloomclock") (kx_w2_good E) rfl rfl (by decide) hiX9_firstPriceOf_10 mX9_firstPriceOf_5 (fun _ h9 => h9) rfl dX9_firstPriceOf_15,
    ok_fun (ok_callV C (kx_w2_rcv E) (ci := 3) (Cn := RX2) (T := TX2) (N := 10) rfl (n := 5) gX9_firstPriceOf_X2_begin rfl (by decide +kernel) ⟨Nat.le_of_ble_eq_true rfl, Nat.le_of_ble_eq_true rfl⟩ dX9_firstPriceOf_18) (fun av M h => f2_X2_begin_ok E h) (Or.inr (fun av M h => f2_X2_begin_rc E h)),
    ok_aload_n C dX9_firstPriceOf_21 rfl,
    ok_gR C (ci := 10) (k := 9) (Cn := RX9) (T := TX9) (N := 18) (index := 49) (ref := "Bloomclock") (kx_w2_good E) rfl rfl (by decide) hiX9_firstPriceOf_10 mX9_firstPriceOf_0 (fun _ h9 => h9) rfl dX9_firstPriceOf_22,
    ok_aload_n C dX9_firstPriceOf_25 rfl,
    ok_gR C (ci := 10) (k := 5) (Cn := RX9) (T := TX9) (N := 18) (index := 28) (ref := "Bloomclock") (kx_w2_good E) rfl rfl (by decide) hiX9_firstPriceOf_10 mX9_firstPriceOf_5 (fun _ h9 => h9) rfl dX9_firstPriceOf_26,
    ok_fun (ok_callV C (kx_w2_rcv E) (ci := 3) (Cn := RX2) (T := TX2) (N := 10) rfl (n := 1) gX9_firstPriceOf_X2_nextTaker rfl (by decide +kernel) ⟨Nat.le_of_ble_eq_true rfl, Nat.le_of_ble_eq_true rfl⟩ dX9_firstPriceOf_29) (fun av M h => f2_X2_nextTaker_ok E h) (Or.inr (fun av M h => f2_X2_nextTaker_rc E h)),
    ok_ifnonnull C dX9_firstPriceOf_32 (by decide),
    ok_iconst C dX9_firstPriceOf_35 (by decide),
    ok_goto C dX9_firstPriceOf_36 (by decide),
    ok_aload_n C dX9_firstPriceOf_39 rfl,
    ok_gR C (ci := 10) (k := 9) (Cn := RX9) (T := TX9) (N := 18) (index := 49) (ref := "Bloomclock") (kx_w2_good E) rfl rfl (by decide) hiX9_firstPriceOf_10 mX9_firstPriceOf_0 (fun _ h9 => h9) rfl dX9_firstPriceOf_40,
    ok_gI C (ci := 3) (k := 9) (Cn := RX2) (T := TX2) (N := 10) (index := 260) (ref := "Bloomclock$ClockRun") (kx_w2_good E) rfl rfl (by decide) hiX9_firstPriceOf_3 mX9_firstPriceOf_6 (fun _ h9 => h9) rfl dX9_firstPriceOf_43,
    ok_iret C hr hl dX9_firstPriceOf_46, trivial⟩

theorem mX9_lowestPriceOf_0 : Cond.fieldLink RX9 49 "Bloomclock" "run" "LBloomclock$ClockRun;" ∈ wsX9_lowestPriceOf := by decide +kernel
theorem hiX9_lowestPriceOf_10 : ∀ w ∈ u_ws RX9 TX9 18, w ∈ wsX9_lowestPriceOf := by decide +kernel
theorem mX9_lowestPriceOf_2 : Cond.fieldLink RX9 191 "Bloomclock$Lot" "life" "I" ∈ wsX9_lowestPriceOf := by decide +kernel
theorem hiX9_lowestPriceOf_6 : ∀ w ∈ u_ws RX5 TX5 12, w ∈ wsX9_lowestPriceOf := by decide +kernel
theorem mX9_lowestPriceOf_4 : Cond.fieldLink RX9 25 "Bloomclock" "buyers" "Ljava/util/ArrayList;" ∈ wsX9_lowestPriceOf := by decide +kernel
theorem mX9_lowestPriceOf_5 : Cond.fieldLink RX9 28 "Bloomclock" "orders" "Ljava/util/ArrayList;" ∈ wsX9_lowestPriceOf := by decide +kernel
theorem mX9_lowestPriceOf_6 : Cond.fieldLink RX9 260 "Bloomclock$ClockRun" "price" "I" ∈ wsX9_lowestPriceOf := by decide +kernel
theorem hiX9_lowestPriceOf_3 : ∀ w ∈ u_ws RX2 TX2 10, w ∈ wsX9_lowestPriceOf := by decide +kernel
theorem mX9_lowestPriceOf_8 : Cond.methodLink RX9 203 Lib.Math.min.name ∈ wsX9_lowestPriceOf := by decide +kernel
theorem mX9_lowestPriceOf_9 : Cond.static Lib.Math.min.name ∈ wsX9_lowestPriceOf := by decide +kernel
theorem mX9_lowestPriceOf_10 : Cond.initialized "java/lang/Math" ∈ wsX9_lowestPriceOf := by decide +kernel
theorem mX9_lowestPriceOf_11 : Cond.code Lib.Math.min.name Lib.Math.min.code 2 (some .int) ∈ wsX9_lowestPriceOf := by decide +kernel
abbrev c2t_X9_lowestPriceOf (E : kx_E) (av : List Value) (M : kx_M) (k ks : Nat) (Q : kx_Q) : Prop := kx_CT E (kx_w2 E) yX9_lowestPriceOf wsX9_lowestPriceOf 5 114 av M k ks Q
def cd_X9_lowestPriceOf (E : kx_E) : List (Nat × kx_T) := [
  (0, t_push 2 (.int 99)),
  (2, t_is 3 2),
  (3, t_al 4 0),
  (4, t_gR 7 11 209),
  (7, t_al 8 1),
  (8, t_al 9 1),
  (9, t_gI 12 7 126),
  (12, t_push 13 (.int 1)),
  (13, t_al 14 0),
  (14, t_gR 17 11 204),
  (17, t_al 18 0),
  (18, t_gR 21 11 205),
  (21, t_fun (f2_X2_begin E) 0 0 24 6),
  (24, t_push 25 (.int 0)),
  (25, t_is 26 3),
  (26, t_il 27 3),
  (27, t_push 30 (.int 200)),
  (30, t_ic 33 65 (fun x y => y ≤ x)),
  (33, t_al 34 0),
  (34, t_gR 37 11 209),
  (37, t_al 38 0),
  (38, t_gR 41 11 205),
  (41, t_fun (f2_X2_nextTaker E) 0 0 44 2),
  (44, t_nul 65 47),
  (47, t_il 48 2),
  (48, t_al 49 0),
  (49, t_gR 52 11 209),
  (52, t_gI 55 4 69),
  (55, t_mm 58 (fun x y => if y < x then y else x)),
  (58, t_is 59 2),
  (59, t_inc 62 3 1),
  (62, t_gk 26 4),
  (65, t_il 66 2),
  (66, t_iret)]
set_option maxRecDepth 4000 in
theorem en_X9_lowestPriceOf (E : kx_E) {av : List Value} {M : kx_M} {k ks : Nat} {Qr : kx_Q} (hlen : (lg_sl av).length ≤ 4) (h : ∀ G : kx_K, kx_all G Qr (cd_X9_lowestPriceOf E) → G k ks 0 (lv_args 0 av) [] M) : c2t_X9_lowestPriceOf E av M k ks Qr := by
  refine kx_enter (by decide) rfl hlen (own := RX9) rfl (cd := cd_X9_lowestPriceOf E) ?_ h
  intro p e s m below meth c C hr hl hnm
  exact ⟨ok_bipush C dX9_lowestPriceOf_0 (by decide),
    ok_istore_n C dX9_lowestPriceOf_2 rfl (by decide),
    ok_aload_n C dX9_lowestPriceOf_3 rfl,
    ok_gR C (ci := 10) (k := 9) (Cn := RX9) (T := TX9) (N := 18) (index := 49) (ref := "Bloomclock") (kx_w2_good E) rfl rfl (by decide) hiX9_lowestPriceOf_10 mX9_lowestPriceOf_0 (fun _ h9 => h9) rfl dX9_lowestPriceOf_4,
    ok_aload_n C dX9_lowestPriceOf_7 rfl,
    ok_aload_n C dX9_lowestPriceOf_8 rfl,
    ok_gI C (ci := 6) (k := 6) (Cn := RX5) (T := TX5) (N := 12) (index := 191) (ref := "Bloomclock$Lot") (kx_w2_good E) rfl rfl (by decide) hiX9_lowestPriceOf_6 mX9_lowestPriceOf_2 (fun _ h9 => h9) rfl dX9_lowestPriceOf_9,
    ok_iconst C dX9_lowestPriceOf_12 (by decide),
    ok_aload_n C dX9_lowestPriceOf_13 rfl,
    ok_gR C (ci := 10) (k := 4) (Cn := RX9) (T := TX9) (N := 18) (index := 25) (ref := "Bloomclock") (kx_w2_good E) rfl rfl (by decide) hiX9_lowestPriceOf_10 mX9_lowestPriceOf_4 (fun _ h9 => h9) rfl dX9_lowestPriceOf_14,
    ok_aload_n C dX9_lowestPriceOf_17 rfl,
    ok_gR C (ci := 10) (k := 5) (Cn := RX9) (T := TX9) (N := 18) (index := 28) (ref := "Bloomclock") (kx_w2_good E) rfl rfl (by decide) hiX9_lowestPriceOf_10 mX9_lowestPriceOf_5 (fun _ h9 => h9) rfl dX9_lowestPriceOf_18,
    ok_fun (ok_callV C (kx_w2_rcv E) (ci := 3) (Cn := RX2) (T := TX2) (N := 10) rfl (n := 5) gX9_lowestPriceOf_X2_begin rfl (by decide +kernel) ⟨Nat.le_of_ble_eq_true rfl, Nat.le_of_ble_eq_true rfl⟩ dX9_lowestPriceOf_21) (fun av M h => f2_X2_begin_ok E h) (Or.inr (fun av M h => f2_X2_begin_rc E h)),
    ok_iconst C dX9_lowestPriceOf_24 (by decide),
    ok_istore_n C dX9_lowestPriceOf_25 rfl (by decide),
    ok_iload_n C dX9_lowestPriceOf_26 rfl,
    ok_sipush C dX9_lowestPriceOf_27 (by decide),
    ok_ic_ge C dX9_lowestPriceOf_30 (by decide),
    ok_aload_n C dX9_lowestPriceOf_33 rfl,
    ok_gR C (ci := 10) (k := 9) (Cn := RX9) (T := TX9) (N := 18) (index := 49) (ref := "Bloomclock") (kx_w2_good E) rfl rfl (by decide) hiX9_lowestPriceOf_10 mX9_lowestPriceOf_0 (fun _ h9 => h9) rfl dX9_lowestPriceOf_34,
    ok_aload_n C dX9_lowestPriceOf_37 rfl,
    ok_gR C (ci := 10) (k := 5) (Cn := RX9) (T := TX9) (N := 18) (index := 28) (ref := "Bloomclock") (kx_w2_good E) rfl rfl (by decide) hiX9_lowestPriceOf_10 mX9_lowestPriceOf_5 (fun _ h9 => h9) rfl dX9_lowestPriceOf_38,
    ok_fun (ok_callV C (kx_w2_rcv E) (ci := 3) (Cn := RX2) (T := TX2) (N := 10) rfl (n := 1) gX9_lowestPriceOf_X2_nextTaker rfl (by decide +kernel) ⟨Nat.le_of_ble_eq_true rfl, Nat.le_of_ble_eq_true rfl⟩ dX9_lowestPriceOf_41) (fun av M h => f2_X2_nextTaker_ok E h) (Or.inr (fun av M h => f2_X2_nextTaker_rc E h)),
    ok_ifnull C dX9_lowestPriceOf_44 (by decide),
    ok_iload_n C dX9_lowestPriceOf_47 rfl,
    ok_aload_n C dX9_lowestPriceOf_48 rfl,
    ok_gR C (ci := 10) (k := 9) (Cn := RX9) (T := TX9) (N := 18) (index := 49) (ref := "Bloomclock") (kx_w2_good E) rfl rfl (by decide) hiX9_lowestPriceOf_10 mX9_lowestPriceOf_0 (fun _ h9 => h9) rfl dX9_lowestPriceOf_49,
    ok_gI C (ci := 3) (k := 9) (Cn := RX2) (T := TX2) (N := 10) (index := 260) (ref := "Bloomclock$ClockRun") (kx_w2_good E) rfl rfl (by decide) hiX9_lowestPriceOf_3 mX9_lowestPriceOf_6 (fun _ h9 => h9) rfl dX9_lowestPriceOf_52,
    ok_min C mX9_lowestPriceOf_8 mX9_lowestPriceOf_9 mX9_lowestPriceOf_10 mX9_lowestPriceOf_11 ⟨Nat.le_of_ble_eq_true rfl, Nat.le_of_ble_eq_true rfl⟩ dX9_lowestPriceOf_55,
    ok_istore_n C dX9_lowestPriceOf_58 rfl (by decide),
    ok_iinc C dX9_lowestPriceOf_59 (by decide) (by decide),
    ok_gotoK C dX9_lowestPriceOf_62 (by decide),
    ok_iload_n C dX9_lowestPriceOf_65 rfl,
    ok_iret C hr hl dX9_lowestPriceOf_66, trivial⟩
