theorem mX9_many_0 : Cond.static yX9_isWithin ∈ wsX9_many := by decide +kernel
theorem mX9_many_1 : Cond.methodLink RX9 85 yX9_isWithin ∈ wsX9_many := by decide +kernel
theorem mX9_many_2 : Cond.initialized RX9 ∈ wsX9_many := by decide +kernel
abbrev c2t_X9_many (E : kx_E) (av : List Value) (M : kx_M) (k ks : Nat) (Q : kx_Q) : Prop := kx_CT E (kx_w2 E) yX9_many wsX9_many 5 107 av M k ks Q
def cd_X9_many (E : kx_E) : List (Nat × kx_T) := [
  (0, t_il 1 1),
  (1, t_push 2 (.int 0)),
  (2, t_push 4 (.int 15)),
  (4, t_fun (f2_X9_isWithin E) 0 0 7 3),
  (7, t_if 10 21 (fun x => x ≠ 0)),
  (10, t_no),
  (21, t_al 22 0),
  (22, t_il 23 1),
  (23, t_fun (f2_X9_numberOfHall E) 0 0 26 2),
  (26, t_iret)]
set_option maxRecDepth 4000 in
theorem en_X9_many (E : kx_E) {av : List Value} {M : kx_M} {k ks : Nat} {Qr : kx_Q} (hlen : (lg_sl av).length ≤ 2) (h : ∀ G : kx_K, kx_all G Qr (cd_X9_many E) → G k ks 0 (lv_args 0 av) [] M) : c2t_X9_many E av M k ks Qr := by
  refine kx_enter (by decide) rfl hlen (own := RX9) rfl (cd := cd_X9_many E) ?_ h
  intro p e s m below meth c C hr hl hnm
  exact ⟨ok_iload_n C dX9_many_0 rfl,
    ok_iconst C dX9_many_1 (by decide),
    ok_bipush C dX9_many_2 (by decide),
    ok_fun (ok_callT C (n := 3) ggX9_many_X9_isWithin mX9_many_0 mX9_many_1 mX9_many_2 rfl (by decide +kernel) ⟨Nat.le_of_ble_eq_true rfl, Nat.le_of_ble_eq_true rfl⟩ dX9_many_4) (fun av M h => f2_X9_isWithin_ok E h) (Or.inl rfl),
    ok_if_ne C dX9_many_7 (by decide),
    ok_no,
    ok_aload_n C dX9_many_21 rfl,
    ok_iload_n C dX9_many_22 rfl,
    ok_fun (ok_callV C (kx_w2_rcv E) (ci := 10) (Cn := RX9) (T := TX9) (N := 18) rfl (n := 1) gX9_many_X9_numberOfHall rfl (by decide +kernel) ⟨Nat.le_of_ble_eq_true rfl, Nat.le_of_ble_eq_true rfl⟩ dX9_many_23) (fun av M h => f2_X9_numberOfHall_ok E h) (Or.inr (fun av M h => f2_X9_numberOfHall_rc E h)),
    ok_iret C hr hl dX9_many_26, trivial⟩

theorem mX9_lamps_0 : Cond.static yX9_isWithin ∈ wsX9_lamps := by decide +kernel
theorem mX9_lamps_1 : Cond.methodLink RX9 85 yX9_isWithin ∈ wsX9_lamps := by decide +kernel
theorem mX9_lamps_2 : Cond.initialized RX9 ∈ wsX9_lamps := by decide +kernel
theorem mX9_lamps_3 : Cond.fieldLink RX9 94 "Bloomclock$Grower" "lamps" "I" ∈ wsX9_lamps := by decide +kernel
theorem hiX9_lamps_5 : ∀ w ∈ u_ws RX4 TX4 5, w ∈ wsX9_lamps := by decide +kernel
abbrev c2t_X9_lamps (E : kx_E) (av : List Value) (M : kx_M) (k ks : Nat) (Q : kx_Q) : Prop := kx_CT E (kx_w2 E) yX9_lamps wsX9_lamps 4 85 av M k ks Q
def cd_X9_lamps (E : kx_E) : List (Nat × kx_T) := [
  (0, t_al 1 0),
  (1, t_il 2 1),
  (2, t_fun (f2_X9_growerAt E) 0 0 5 2),
  (5, t_as 6 3),
  (6, t_il 7 2),
  (7, t_push 8 (.int 0)),
  (8, t_push 9 (.int 3)),
  (9, t_fun (f2_X9_isWithin E) 0 0 12 3),
  (12, t_if 15 25 (fun x => x ≠ 0)),
  (15, t_no),
  (25, t_al 26 3),
  (26, t_gI 29 6 102),
  (29, t_is 31 4),
  (31, t_al 32 3),
  (32, t_il 33 2),
  (33, t_pI 36 6 102),
  (36, t_il 38 4),
  (38, t_iret)]
set_option maxRecDepth 4000 in
theorem en_X9_lamps (E : kx_E) {av : List Value} {M : kx_M} {k ks : Nat} {Qr : kx_Q} (hlen : (lg_sl av).length ≤ 5) (h : ∀ G : kx_K, kx_all G Qr (cd_X9_lamps E) → G k ks 0 (lv_args 0 av) [] M) : c2t_X9_lamps E av M k ks Qr := by
  refine kx_enter (by decide) rfl hlen (own := RX9) rfl (cd := cd_X9_lamps E) ?_ h
  intro p e s m below meth c C hr hl hnm
  exact ⟨ok_aload_n C dX9_lamps_0 rfl,
    ok_iload_n C dX9_lamps_1 rfl,
    ok_fun (ok_callV C (kx_w2_rcv E) (ci := 10) (Cn := RX9) (T := TX9) (N := 18) rfl (n := 1) gX9_lamps_X9_growerAt rfl (by decide +kernel) ⟨Nat.le_of_ble_eq_true rfl, Nat.le_of_ble_eq_true rfl⟩ dX9_lamps_2) (fun av M h => f2_X9_growerAt_ok E h) (Or.inr (fun av M h => f2_X9_growerAt_rc E h)),
    ok_astore_n C dX9_lamps_5 rfl (by decide),
    ok_iload_n C dX9_lamps_6 rfl,
    ok_iconst C dX9_lamps_7 (by decide),
    ok_iconst C dX9_lamps_8 (by decide),
    ok_fun (ok_callT C (n := 3) ggX9_lamps_X9_isWithin mX9_lamps_0 mX9_lamps_1 mX9_lamps_2 rfl (by decide +kernel) ⟨Nat.le_of_ble_eq_true rfl, Nat.le_of_ble_eq_true rfl⟩ dX9_lamps_9) (fun av M h => f2_X9_isWithin_ok E h) (Or.inl rfl),
    ok_if_ne C dX9_lamps_12 (by decide),
    ok_no,
    ok_aload_n C dX9_lamps_25 rfl,
    ok_gI C (ci := 5) (k := 2) (Cn := RX4) (T := TX4) (N := 5) (index := 94) (ref := "Bloomclock$Grower") (kx_w2_good E) rfl rfl (by decide) hiX9_lamps_5 mX9_lamps_3 (fun _ h9 => h9) rfl dX9_lamps_26,
    ok_istore C dX9_lamps_29 (by decide),
    ok_aload_n C dX9_lamps_31 rfl,
    ok_iload_n C dX9_lamps_32 rfl,
    ok_pI C (ci := 5) (k := 2) (Cn := RX4) (T := TX4) (N := 5) (index := 94) (ref := "Bloomclock$Grower") (kx_w2_good E) rfl rfl (by decide) hiX9_lamps_5 mX9_lamps_3 (fun _ h9 => h9) tyX4 tyX4_ok nmX4 rfl (by decide +kernel) rfl dX9_lamps_33,
    ok_iload C dX9_lamps_36,
    ok_iret C hr hl dX9_lamps_38, trivial⟩

theorem mX9_even_0 : Cond.static yX9_isWithin ∈ wsX9_even := by decide +kernel
theorem mX9_even_1 : Cond.methodLink RX9 85 yX9_isWithin ∈ wsX9_even := by decide +kernel
theorem mX9_even_2 : Cond.initialized RX9 ∈ wsX9_even := by decide +kernel
theorem mX9_even_3 : Cond.fieldLink RX9 220 "Bloomclock$Buyer" "evened" "I" ∈ wsX9_even := by decide +kernel
theorem hiX9_even_1 : ∀ w ∈ u_ws RX0 TX0 11, w ∈ wsX9_even := by decide +kernel
abbrev c2t_X9_even (E : kx_E) (av : List Value) (M : kx_M) (k ks : Nat) (Q : kx_Q) : Prop := kx_CT E (kx_w2 E) yX9_even wsX9_even 4 85 av M k ks Q
def cd_X9_even (E : kx_E) : List (Nat × kx_T) := [
  (0, t_al 1 0),
  (1, t_il 2 1),
  (2, t_fun (f2_X9_buyerAt E) 0 0 5 2),
  (5, t_as 6 3),
  (6, t_il 7 2),
  (7, t_push 8 (.int 0)),
  (8, t_push 10 (.int 9)),
  (10, t_fun (f2_X9_isWithin E) 0 0 13 3),
  (13, t_if 16 26 (fun x => x ≠ 0)),
  (16, t_no),
  (26, t_al 27 3),
  (27, t_gI 30 2 24),
  (30, t_is 32 4),
  (32, t_al 33 3),
  (33, t_il 34 2),
  (34, t_pI 37 2 24),
  (37, t_il 39 4),
  (39, t_iret)]
set_option maxRecDepth 4000 in
theorem en_X9_even (E : kx_E) {av : List Value} {M : kx_M} {k ks : Nat} {Qr : kx_Q} (hlen : (lg_sl av).length ≤ 5) (h : ∀ G : kx_K, kx_all G Qr (cd_X9_even E) → G k ks 0 (lv_args 0 av) [] M) : c2t_X9_even E av M k ks Qr := by
  refine kx_enter (by decide) rfl hlen (own := RX9) rfl (cd := cd_X9_even E) ?_ h
  intro p e s m below meth c C hr hl hnm
  exact ⟨ok_aload_n C dX9_even_0 rfl,
    ok_iload_n C dX9_even_1 rfl,
    ok_fun (ok_callV C (kx_w2_rcv E) (ci := 10) (Cn := RX9) (T := TX9) (N := 18) rfl (n := 1) gX9_even_X9_buyerAt rfl (by decide +kernel) ⟨Nat.le_of_ble_eq_true rfl, Nat.le_of_ble_eq_true rfl⟩ dX9_even_2) (fun av M h => f2_X9_buyerAt_ok E h) (Or.inr (fun av M h => f2_X9_buyerAt_rc E h)),
    ok_astore_n C dX9_even_5 rfl (by decide),
    ok_iload_n C dX9_even_6 rfl,
    ok_iconst C dX9_even_7 (by decide),
    ok_bipush C dX9_even_8 (by decide),
    ok_fun (ok_callT C (n := 3) ggX9_even_X9_isWithin mX9_even_0 mX9_even_1 mX9_even_2 rfl (by decide +kernel) ⟨Nat.le_of_ble_eq_true rfl, Nat.le_of_ble_eq_true rfl⟩ dX9_even_10) (fun av M h => f2_X9_isWithin_ok E h) (Or.inl rfl),
    ok_if_ne C dX9_even_13 (by decide),
    ok_no,
    ok_aload_n C dX9_even_26 rfl,
    ok_gI C (ci := 1) (k := 4) (Cn := RX0) (T := TX0) (N := 11) (index := 220) (ref := "Bloomclock$Buyer") (kx_w2_good E) rfl rfl (by decide) hiX9_even_1 mX9_even_3 (fun _ h9 => h9) rfl dX9_even_27,
    ok_istore C dX9_even_30 (by decide),
    ok_aload_n C dX9_even_32 rfl,
    ok_iload_n C dX9_even_33 rfl,
    ok_pI C (ci := 1) (k := 4) (Cn := RX0) (T := TX0) (N := 11) (index := 220) (ref := "Bloomclock$Buyer") (kx_w2_good E) rfl rfl (by decide) hiX9_even_1 mX9_even_3 (fun _ h9 => h9) tyX0 tyX0_ok nmX0 rfl (by decide +kernel) rfl dX9_even_34,
    ok_iload C dX9_even_37,
    ok_iret C hr hl dX9_even_39, trivial⟩

theorem mX9_leave_0 : Cond.static yX9_isWithin ∈ wsX9_leave := by decide +kernel
theorem mX9_leave_1 : Cond.methodLink RX9 85 yX9_isWithin ∈ wsX9_leave := by decide +kernel
theorem mX9_leave_2 : Cond.initialized RX9 ∈ wsX9_leave := by decide +kernel
theorem mX9_leave_3 : Cond.fieldLink RX9 225 "Bloomclock$Buyer" "leavingHour" "I" ∈ wsX9_leave := by decide +kernel
theorem hiX9_leave_1 : ∀ w ∈ u_ws RX0 TX0 11, w ∈ wsX9_leave := by decide +kernel
abbrev c2t_X9_leave (E : kx_E) (av : List Value) (M : kx_M) (k ks : Nat) (Q : kx_Q) : Prop := kx_CT E (kx_w2 E) yX9_leave wsX9_leave 4 85 av M k ks Q
def cd_X9_leave (E : kx_E) : List (Nat × kx_T) := [
  (0, t_al 1 0),
  (1, t_il 2 1),
  (2, t_fun (f2_X9_buyerAt E) 0 0 5 2),
  (5, t_as 6 3),
  (6, t_il 7 2),
  (7, t_push 8 (.int (-1))),
  (8, t_push 11 (.int 9999)),
  (11, t_fun (f2_X9_isWithin E) 0 0 14 3),
  (14, t_if 17 27 (fun x => x ≠ 0)),
  (17, t_no),
  (27, t_al 28 3),
  (28, t_gI 31 2 25),
  (31, t_is 33 4),
  (33, t_al 34 3),
  (34, t_il 35 2),
  (35, t_pI 38 2 25),
  (38, t_il 40 4),
  (40, t_iret)]
set_option maxRecDepth 4000 in
theorem en_X9_leave (E : kx_E) {av : List Value} {M : kx_M} {k ks : Nat} {Qr : kx_Q} (hlen : (lg_sl av).length ≤ 5) (h : ∀ G : kx_K, kx_all G Qr (cd_X9_leave E) → G k ks 0 (lv_args 0 av) [] M) : c2t_X9_leave E av M k ks Qr := by
  refine kx_enter (by decide) rfl hlen (own := RX9) rfl (cd := cd_X9_leave E) ?_ h
  intro p e s m below meth c C hr hl hnm
  exact ⟨ok_aload_n C dX9_leave_0 rfl,
    ok_iload_n C dX9_leave_1 rfl,
    ok_fun (ok_callV C (kx_w2_rcv E) (ci := 10) (Cn := RX9) (T := TX9) (N := 18) rfl (n := 1) gX9_leave_X9_buyerAt rfl (by decide +kernel) ⟨Nat.le_of_ble_eq_true rfl, Nat.le_of_ble_eq_true rfl⟩ dX9_leave_2) (fun av M h => f2_X9_buyerAt_ok E h) (Or.inr (fun av M h => f2_X9_buyerAt_rc E h)),
    ok_astore_n C dX9_leave_5 rfl (by decide),
    ok_iload_n C dX9_leave_6 rfl,
    ok_iconst C dX9_leave_7 (by decide),
    ok_sipush C dX9_leave_8 (by decide),
    ok_fun (ok_callT C (n := 3) ggX9_leave_X9_isWithin mX9_leave_0 mX9_leave_1 mX9_leave_2 rfl (by decide +kernel) ⟨Nat.le_of_ble_eq_true rfl, Nat.le_of_ble_eq_true rfl⟩ dX9_leave_11) (fun av M h => f2_X9_isWithin_ok E h) (Or.inl rfl),
    ok_if_ne C dX9_leave_14 (by decide),
    ok_no,
    ok_aload_n C dX9_leave_27 rfl,
    ok_gI C (ci := 1) (k := 5) (Cn := RX0) (T := TX0) (N := 11) (index := 225) (ref := "Bloomclock$Buyer") (kx_w2_good E) rfl rfl (by decide) hiX9_leave_1 mX9_leave_3 (fun _ h9 => h9) rfl dX9_leave_28,
    ok_istore C dX9_leave_31 (by decide),
    ok_aload_n C dX9_leave_33 rfl,
    ok_iload_n C dX9_leave_34 rfl,
    ok_pI C (ci := 1) (k := 5) (Cn := RX0) (T := TX0) (N := 11) (index := 225) (ref := "Bloomclock$Buyer") (kx_w2_good E) rfl rfl (by decide) hiX9_leave_1 mX9_leave_3 (fun _ h9 => h9) tyX0 tyX0_ok nmX0 rfl (by decide +kernel) rfl dX9_leave_35,
    ok_iload C dX9_leave_38,
    ok_iret C hr hl dX9_leave_40, trivial⟩

theorem mX9_clear_0 : Cond.fieldLink RX9 146 "Bloomclock$Lot" "state" "I" ∈ wsX9_clear := by decide +kernel
theorem hiX9_clear_6 : ∀ w ∈ u_ws RX5 TX5 12, w ∈ wsX9_clear := by decide +kernel
theorem mX9_clear_2 : Cond.fieldLink RX9 174 "Bloomclock$Lot" "stems" "I" ∈ wsX9_clear := by decide +kernel
theorem mX9_clear_3 : Cond.fieldLink RX9 325 "Bloomclock" "waste" "I" ∈ wsX9_clear := by decide +kernel
theorem hiX9_clear_10 : ∀ w ∈ u_ws RX9 TX9 18, w ∈ wsX9_clear := by decide +kernel
theorem mX9_clear_5 : Cond.fieldLink RX9 57 "Bloomclock" "pool" "I" ∈ wsX9_clear := by decide +kernel
theorem mX9_clear_6 : Cond.fieldLink RX9 134 "Bloomclock$Lot" "buckets" "I" ∈ wsX9_clear := by decide +kernel
theorem mX9_clear_7 : Cond.fieldLink RX9 161 "Bloomclock$Lot" "grower" "LBloomclock$Grower;" ∈ wsX9_clear := by decide +kernel
theorem mX9_clear_8 : Cond.fieldLink RX9 194 "Bloomclock$Grower" "mark" "I" ∈ wsX9_clear := by decide +kernel
theorem hiX9_clear_5 : ∀ w ∈ u_ws RX4 TX4 5, w ∈ wsX9_clear := by decide +kernel
theorem mX9_clear_10 : Cond.methodLink RX9 203 Lib.Math.min.name ∈ wsX9_clear := by decide +kernel
theorem mX9_clear_11 : Cond.static Lib.Math.min.name ∈ wsX9_clear := by decide +kernel
theorem mX9_clear_12 : Cond.initialized "java/lang/Math" ∈ wsX9_clear := by decide +kernel
theorem mX9_clear_13 : Cond.code Lib.Math.min.name Lib.Math.min.code 2 (some .int) ∈ wsX9_clear := by decide +kernel
abbrev c2t_X9_clear (E : kx_E) (av : List Value) (M : kx_M) (k ks : Nat) (Q : kx_Q) : Prop := kx_CT E (kx_w2 E) yX9_clear wsX9_clear 4 85 av M k ks Q
def cd_X9_clear (E : kx_E) : List (Nat × kx_T) := [
  (0, t_al 1 0),
  (1, t_il 2 1),
  (2, t_fun (f2_X9_lotAt E) 0 0 5 2),
  (5, t_as 6 3),
  (6, t_al 7 3),
  (7, t_gI 10 7 129),
  (10, t_if 13 24 (fun x => x = 0)),
  (13, t_no),
  (24, t_al 25 3),
  (25, t_gI 28 7 125),
  (28, t_is 30 4),
  (30, t_al 31 0),
  (31, t_dup 32),
  (32, t_gI 35 11 215),
  (35, t_il 37 4),
  (37, t_bin 38 (fun x y => x + y)),
  (38, t_pI 41 11 215),
  (41, t_al 42 0),
  (42, t_dup 43),
  (43, t_gI 46 11 212),
  (46, t_al 47 3),
  (47, t_gI 50 7 127),
  (50, t_bin 51 (fun x y => x + y)),
  (51, t_pI 54 11 212),
  (54, t_al 55 3),
  (55, t_push 56 (.int 0)),
  (56, t_pI 59 7 125),
  (59, t_al 60 3),
  (60, t_push 61 (.int 0)),
  (61, t_pI 64 7 127),
  (64, t_al 65 3),
  (65, t_push 66 (.int 3)),
  (66, t_pI 69 7 129),
  (69, t_il 70 2),
  (70, t_if 73 94 (fun x => x = 0)),
  (73, t_al 74 3),
  (74, t_gR 77 7 121),
  (77, t_push 79 (.int 100)),
  (79, t_al 80 3),
  (80, t_gR 83 7 121),
  (83, t_gI 86 6 103),
  (86, t_push 87 (.int 1)),
  (87, t_bin 88 (fun x y => x + y)),
  (88, t_mm 91 (fun x y => if y < x then y else x)),
  (91, t_pI 94 6 103),
  (94, t_il 96 4),
  (96, t_iret)]
set_option maxRecDepth 4000 in
theorem en_X9_clear (E : kx_E) {av : List Value} {M : kx_M} {k ks : Nat} {Qr : kx_Q} (hlen : (lg_sl av).length ≤ 5) (h : ∀ G : kx_K, kx_all G Qr (cd_X9_clear E) → G k ks 0 (lv_args 0 av) [] M) : c2t_X9_clear E av M k ks Qr := by
  refine kx_enter (by decide) rfl hlen (own := RX9) rfl (cd := cd_X9_clear E) ?_ h
  intro p e s m below meth c C hr hl hnm
  exact ⟨ok_aload_n C dX9_clear_0 rfl,
    ok_iload_n C dX9_clear_1 rfl,
    ok_fun (ok_callV C (kx_w2_rcv E) (ci := 10) (Cn := RX9) (T := TX9) (N := 18) rfl (n := 1) gX9_clear_X9_lotAt rfl (by decide +kernel) ⟨Nat.le_of_ble_eq_true rfl, Nat.le_of_ble_eq_true rfl⟩ dX9_clear_2) (fun av M h => f2_X9_lotAt_ok E h) (Or.inr (fun av M h => f2_X9_lotAt_rc E h)),
    ok_astore_n C dX9_clear_5 rfl (by decide),
    ok_aload_n C dX9_clear_6 rfl,
    ok_gI C (ci := 6) (k := 9) (Cn := RX5) (T := TX5) (N := 12) (index := 146) (ref := "Bloomclock$Lot") (kx_w2_good E) rfl rfl (by decide) hiX9_clear_6 mX9_clear_0 (fun _ h9 => h9) rfl dX9_clear_7,
    ok_if_eq C dX9_clear_10 (by decide),
    ok_no,
    ok_aload_n C dX9_clear_24 rfl,
    ok_gI C (ci := 6) (k := 5) (Cn := RX5) (T := TX5) (N := 12) (index := 174) (ref := "Bloomclock$Lot") (kx_w2_good E) rfl rfl (by decide) hiX9_clear_6 mX9_clear_2 (fun _ h9 => h9) rfl dX9_clear_25,
    ok_istore C dX9_clear_28 (by decide),
    ok_aload_n C dX9_clear_30 rfl,
    ok_dup C dX9_clear_31,
    ok_gI C (ci := 10) (k := 15) (Cn := RX9) (T := TX9) (N := 18) (index := 325) (ref := "Bloomclock") (kx_w2_good E) rfl rfl (by decide) hiX9_clear_10 mX9_clear_3 (fun _ h9 => h9) rfl dX9_clear_32,
    ok_iload C dX9_clear_35,
    ok_iadd C dX9_clear_37,
    ok_pI C (ci := 10) (k := 15) (Cn := RX9) (T := TX9) (N := 18) (index := 325) (ref := "Bloomclock") (kx_w2_good E) rfl rfl (by decide) hiX9_clear_10 mX9_clear_3 (fun _ h9 => h9) tyX9 tyX9_ok nmX9 rfl (by decide +kernel) rfl dX9_clear_38,
    ok_aload_n C dX9_clear_41 rfl,
    ok_dup C dX9_clear_42,
    ok_gI C (ci := 10) (k := 12) (Cn := RX9) (T := TX9) (N := 18) (index := 57) (ref := "Bloomclock") (kx_w2_good E) rfl rfl (by decide) hiX9_clear_10 mX9_clear_5 (fun _ h9 => h9) rfl dX9_clear_43,
    ok_aload_n C dX9_clear_46 rfl,
    ok_gI C (ci := 6) (k := 7) (Cn := RX5) (T := TX5) (N := 12) (index := 134) (ref := "Bloomclock$Lot") (kx_w2_good E) rfl rfl (by decide) hiX9_clear_6 mX9_clear_6 (fun _ h9 => h9) rfl dX9_clear_47,
    ok_iadd C dX9_clear_50,
    ok_pI C (ci := 10) (k := 12) (Cn := RX9) (T := TX9) (N := 18) (index := 57) (ref := "Bloomclock") (kx_w2_good E) rfl rfl (by decide) hiX9_clear_10 mX9_clear_5 (fun _ h9 => h9) tyX9 tyX9_ok nmX9 rfl (by decide +kernel) rfl dX9_clear_51,
    ok_aload_n C dX9_clear_54 rfl,
    ok_iconst C dX9_clear_55 (by decide),
    ok_pI C (ci := 6) (k := 5) (Cn := RX5) (T := TX5) (N := 12) (index := 174) (ref := "Bloomclock$Lot") (kx_w2_good E) rfl rfl (by decide) hiX9_clear_6 mX9_clear_2 (fun _ h9 => h9) tyX5 tyX5_ok nmX5 rfl (by decide +kernel) rfl dX9_clear_56,
    ok_aload_n C dX9_clear_59 rfl,
    ok_iconst C dX9_clear_60 (by decide),
    ok_pI C (ci := 6) (k := 7) (Cn := RX5) (T := TX5) (N := 12) (index := 134) (ref := "Bloomclock$Lot") (kx_w2_good E) rfl rfl (by decide) hiX9_clear_6 mX9_clear_6 (fun _ h9 => h9) tyX5 tyX5_ok nmX5 rfl (by decide +kernel) rfl dX9_clear_61,
    ok_aload_n C dX9_clear_64 rfl,
    ok_iconst C dX9_clear_65 (by decide),
    ok_pI C (ci := 6) (k := 9) (Cn := RX5) (T := TX5) (N := 12) (index := 146) (ref := "Bloomclock$Lot") (kx_w2_good E) rfl rfl (by decide) hiX9_clear_6 mX9_clear_0 (fun _ h9 => h9) tyX5 tyX5_ok nmX5 rfl (by decide +kernel) rfl dX9_clear_66,
    ok_iload_n C dX9_clear_69 rfl,
    ok_if_eq C dX9_clear_70 (by decide),
    ok_aload_n C dX9_clear_73 rfl,
    ok_gR C (ci := 6) (k := 1) (Cn := RX5) (T := TX5) (N := 12) (index := 161) (ref := "Bloomclock$Lot") (kx_w2_good E) rfl rfl (by decide) hiX9_clear_6 mX9_clear_7 (fun _ h9 => h9) rfl dX9_clear_74,
    ok_bipush C dX9_clear_77 (by decide),
    ok_aload_n C dX9_clear_79 rfl,
    ok_gR C (ci := 6) (k := 1) (Cn := RX5) (T := TX5) (N := 12) (index := 161) (ref := "Bloomclock$Lot") (kx_w2_good E) rfl rfl (by decide) hiX9_clear_6 mX9_clear_7 (fun _ h9 => h9) rfl dX9_clear_80,
    ok_gI C (ci := 5) (k := 3) (Cn := RX4) (T := TX4) (N := 5) (index := 194) (ref := "Bloomclock$Grower") (kx_w2_good E) rfl rfl (by decide) hiX9_clear_5 mX9_clear_8 (fun _ h9 => h9) rfl dX9_clear_83,
    ok_iconst C dX9_clear_86 (by decide),
    ok_iadd C dX9_clear_87,
    ok_min C mX9_clear_10 mX9_clear_11 mX9_clear_12 mX9_clear_13 ⟨Nat.le_of_ble_eq_true rfl, Nat.le_of_ble_eq_true rfl⟩ dX9_clear_88,
    ok_pI C (ci := 5) (k := 3) (Cn := RX4) (T := TX4) (N := 5) (index := 194) (ref := "Bloomclock$Grower") (kx_w2_good E) rfl rfl (by decide) hiX9_clear_5 mX9_clear_8 (fun _ h9 => h9) tyX4 tyX4_ok nmX4 rfl (by decide +kernel) rfl dX9_clear_91,
    ok_iload C dX9_clear_94,
    ok_iret C hr hl dX9_clear_96, trivial⟩

theorem mX9_back_0 : Cond.fieldLink RX9 293 "Bloomclock$Buyer" "buckets" "I" ∈ wsX9_back := by decide +kernel
theorem hiX9_back_1 : ∀ w ∈ u_ws RX0 TX0 11, w ∈ wsX9_back := by decide +kernel
theorem mX9_back_2 : Cond.fieldLink RX9 57 "Bloomclock" "pool" "I" ∈ wsX9_back := by decide +kernel
theorem hiX9_back_10 : ∀ w ∈ u_ws RX9 TX9 18, w ∈ wsX9_back := by decide +kernel
theorem mX9_back_4 : Cond.fieldLink RX9 269 "Bloomclock$Buyer" "coins" "I" ∈ wsX9_back := by decide +kernel
theorem mX9_back_5 : Cond.fieldLink RX9 320 "Bloomclock" "hallCoins" "I" ∈ wsX9_back := by decide +kernel
abbrev c2t_X9_back (E : kx_E) (av : List Value) (M : kx_M) (k ks : Nat) (Q : kx_Q) : Prop := kx_CT E (kx_w2 E) yX9_back wsX9_back 4 85 av M k ks Q
def cd_X9_back (E : kx_E) : List (Nat × kx_T) := [
  (0, t_al 1 0),
  (1, t_il 2 1),
  (2, t_fun (f2_X9_buyerAt E) 0 0 5 2),
  (5, t_as 6 3),
  (6, t_il 7 2),
  (7, t_push 8 (.int 1)),
  (8, t_ic 11 22 (fun x y => y ≤ x)),
  (11, t_no),
  (22, t_il 23 2),
  (23, t_al 24 3),
  (24, t_gI 27 2 26),
  (27, t_ic 30 41 (fun x y => x ≤ y)),
  (30, t_no),
  (41, t_al 42 3),
  (42, t_dup 43),
  (43, t_gI 46 2 26),
  (46, t_il 47 2),
  (47, t_bin 48 (fun x y => x - y)),
  (48, t_pI 51 2 26),
  (51, t_al 52 0),
  (52, t_dup 53),
  (53, t_gI 56 11 212),
  (56, t_il 57 2),
  (57, t_bin 58 (fun x y => x + y)),
  (58, t_pI 61 11 212),
  (61, t_al 62 3),
  (62, t_dup 63),
  (63, t_gI 66 2 23),
  (66, t_il 67 2),
  (67, t_push 68 (.int 2)),
  (68, t_bin 69 (fun x y => x * y)),
  (69, t_bin 70 (fun x y => x + y)),
  (70, t_pI 73 2 23),
  (73, t_al 74 0),
  (74, t_dup 75),
  (75, t_gI 78 11 214),
  (78, t_il 79 2),
  (79, t_push 80 (.int 2)),
  (80, t_bin 81 (fun x y => x * y)),
  (81, t_bin 82 (fun x y => x - y)),
  (82, t_pI 85 11 214),
  (85, t_al 86 0),
  (86, t_gI 89 11 212),
  (89, t_iret)]
set_option maxRecDepth 4000 in
theorem en_X9_back (E : kx_E) {av : List Value} {M : kx_M} {k ks : Nat} {Qr : kx_Q} (hlen : (lg_sl av).length ≤ 4) (h : ∀ G : kx_K, kx_all G Qr (cd_X9_back E) → G k ks 0 (lv_args 0 av) [] M) : c2t_X9_back E av M k ks Qr := by
  refine kx_enter (by decide) rfl hlen (own := RX9) rfl (cd := cd_X9_back E) ?_ h
  intro p e s m below meth c C hr hl hnm
  exact ⟨ok_aload_n C dX9_back_0 rfl,
    ok_iload_n C dX9_back_1 rfl,
    ok_fun (ok_callV C (kx_w2_rcv E) (ci := 10) (Cn := RX9) (T := TX9) (N := 18) rfl (n := 1) gX9_back_X9_buyerAt rfl (by decide +kernel) ⟨Nat.le_of_ble_eq_true rfl, Nat.le_of_ble_eq_true rfl⟩ dX9_back_2) (fun av M h => f2_X9_buyerAt_ok E h) (Or.inr (fun av M h => f2_X9_buyerAt_rc E h)),
    ok_astore_n C dX9_back_5 rfl (by decide),
    ok_iload_n C dX9_back_6 rfl,
    ok_iconst C dX9_back_7 (by decide),
    ok_ic_ge C dX9_back_8 (by decide),
    ok_no,
    ok_iload_n C dX9_back_22 rfl,
    ok_aload_n C dX9_back_23 rfl,
    ok_gI C (ci := 1) (k := 6) (Cn := RX0) (T := TX0) (N := 11) (index := 293) (ref := "Bloomclock$Buyer") (kx_w2_good E) rfl rfl (by decide) hiX9_back_1 mX9_back_0 (fun _ h9 => h9) rfl dX9_back_24,
    ok_ic_le C dX9_back_27 (by decide),
    ok_no,
    ok_aload_n C dX9_back_41 rfl,
    ok_dup C dX9_back_42,
    ok_gI C (ci := 1) (k := 6) (Cn := RX0) (T := TX0) (N := 11) (index := 293) (ref := "Bloomclock$Buyer") (kx_w2_good E) rfl rfl (by decide) hiX9_back_1 mX9_back_0 (fun _ h9 => h9) rfl dX9_back_43,
    ok_iload_n C dX9_back_46 rfl,
    ok_isub C dX9_back_47,
    ok_pI C (ci := 1) (k := 6) (Cn := RX0) (T := TX0) (N := 11) (index := 293) (ref := "Bloomclock$Buyer") (kx_w2_good E) rfl rfl (by decide) hiX9_back_1 mX9_back_0 (fun _ h9 => h9) tyX0 tyX0_ok nmX0 rfl (by decide +kernel) rfl dX9_back_48,
    ok_aload_n C dX9_back_51 rfl,
    ok_dup C dX9_back_52,
    ok_gI C (ci := 10) (k := 12) (Cn := RX9) (T := TX9) (N := 18) (index := 57) (ref := "Bloomclock") (kx_w2_good E) rfl rfl (by decide) hiX9_back_10 mX9_back_2 (fun _ h9 => h9) rfl dX9_back_53,
    ok_iload_n C dX9_back_56 rfl,
    ok_iadd C dX9_back_57,
    ok_pI C (ci := 10) (k := 12) (Cn := RX9) (T := TX9) (N := 18) (index := 57) (ref := "Bloomclock") (kx_w2_good E) rfl rfl (by decide) hiX9_back_10 mX9_back_2 (fun _ h9 => h9) tyX9 tyX9_ok nmX9 rfl (by decide +kernel) rfl dX9_back_58,
    ok_aload_n C dX9_back_61 rfl,
    ok_dup C dX9_back_62,
    ok_gI C (ci := 1) (k := 3) (Cn := RX0) (T := TX0) (N := 11) (index := 269) (ref := "Bloomclock$Buyer") (kx_w2_good E) rfl rfl (by decide) hiX9_back_1 mX9_back_4 (fun _ h9 => h9) rfl dX9_back_63,
    ok_iload_n C dX9_back_66 rfl,
    ok_iconst C dX9_back_67 (by decide),
    ok_imul C dX9_back_68,
    ok_iadd C dX9_back_69,
    ok_pI C (ci := 1) (k := 3) (Cn := RX0) (T := TX0) (N := 11) (index := 269) (ref := "Bloomclock$Buyer") (kx_w2_good E) rfl rfl (by decide) hiX9_back_1 mX9_back_4 (fun _ h9 => h9) tyX0 tyX0_ok nmX0 rfl (by decide +kernel) rfl dX9_back_70,
    ok_aload_n C dX9_back_73 rfl,
    ok_dup C dX9_back_74,
    ok_gI C (ci := 10) (k := 14) (Cn := RX9) (T := TX9) (N := 18) (index := 320) (ref := "Bloomclock") (kx_w2_good E) rfl rfl (by decide) hiX9_back_10 mX9_back_5 (fun _ h9 => h9) rfl dX9_back_75,
    ok_iload_n C dX9_back_78 rfl,
    ok_iconst C dX9_back_79 (by decide),
    ok_imul C dX9_back_80,
    ok_isub C dX9_back_81,
    ok_pI C (ci := 10) (k := 14) (Cn := RX9) (T := TX9) (N := 18) (index := 320) (ref := "Bloomclock") (kx_w2_good E) rfl rfl (by decide) hiX9_back_10 mX9_back_5 (fun _ h9 => h9) tyX9 tyX9_ok nmX9 rfl (by decide +kernel) rfl dX9_back_82,
    ok_aload_n C dX9_back_85 rfl,
    ok_gI C (ci := 10) (k := 12) (Cn := RX9) (T := TX9) (N := 18) (index := 57) (ref := "Bloomclock") (kx_w2_good E) rfl rfl (by decide) hiX9_back_10 mX9_back_2 (fun _ h9 => h9) rfl dX9_back_86,
    ok_iret C hr hl dX9_back_89, trivial⟩

theorem mX9_inspect_0 : Cond.fieldLink RX9 146 "Bloomclock$Lot" "state" "I" ∈ wsX9_inspect := by decide +kernel
theorem hiX9_inspect_6 : ∀ w ∈ u_ws RX5 TX5 12, w ∈ wsX9_inspect := by decide +kernel
theorem mX9_inspect_2 : Cond.fieldLink RX9 161 "Bloomclock$Lot" "grower" "LBloomclock$Grower;" ∈ wsX9_inspect := by decide +kernel
theorem mX9_inspect_3 : Cond.fieldLink RX9 183 "Bloomclock$Lot" "told" "I" ∈ wsX9_inspect := by decide +kernel
theorem mX9_inspect_4 : Cond.fieldLink RX9 191 "Bloomclock$Lot" "life" "I" ∈ wsX9_inspect := by decide +kernel
theorem mX9_inspect_5 : Cond.fieldLink RX9 194 "Bloomclock$Grower" "mark" "I" ∈ wsX9_inspect := by decide +kernel
theorem hiX9_inspect_5 : ∀ w ∈ u_ws RX4 TX4 5, w ∈ wsX9_inspect := by decide +kernel
theorem mX9_inspect_7 : Cond.methodLink RX9 197 Lib.Math.max.name ∈ wsX9_inspect := by decide +kernel
theorem mX9_inspect_8 : Cond.static Lib.Math.max.name ∈ wsX9_inspect := by decide +kernel
theorem mX9_inspect_9 : Cond.initialized "java/lang/Math" ∈ wsX9_inspect := by decide +kernel
theorem mX9_inspect_10 : Cond.code Lib.Math.max.name Lib.Math.max.code 2 (some .int) ∈ wsX9_inspect := by decide +kernel
theorem mX9_inspect_11 : Cond.methodLink RX9 203 Lib.Math.min.name ∈ wsX9_inspect := by decide +kernel
theorem mX9_inspect_12 : Cond.static Lib.Math.min.name ∈ wsX9_inspect := by decide +kernel
theorem mX9_inspect_13 : Cond.code Lib.Math.min.name Lib.Math.min.code 2 (some .int) ∈ wsX9_inspect := by decide +kernel
abbrev c2t_X9_inspect (E : kx_E) (av : List Value) (M : kx_M) (k ks : Nat) (Q : kx_Q) : Prop := kx_CT E (kx_w2 E) yX9_inspect wsX9_inspect 4 85 av M k ks Q
def cd_X9_inspect (E : kx_E) : List (Nat × kx_T) := [
  (0, t_al 1 0),
  (1, t_il 2 1),
  (2, t_fun (f2_X9_lotAt E) 0 0 5 2),
  (5, t_as 6 2),
  (6, t_al 7 2),
  (7, t_gI 10 7 129),
  (10, t_push 11 (.int 1)),
  (11, t_ic 14 24 (fun x y => x = y)),
  (14, t_no),
  (24, t_al 25 2),
  (25, t_gR 28 7 121),
  (28, t_as 29 3),
  (29, t_al 30 2),
  (30, t_gI 33 7 130),
  (33, t_al 34 2),
  (34, t_gI 37 7 126),
  (37, t_ic 40 66 (fun x y => x ≤ y)),
  (40, t_al 41 3),
  (41, t_push 42 (.int 0)),
  (42, t_al 43 3),
  (43, t_gI 46 6 103),
  (46, t_push 48 (.int 10)),
  (48, t_bin 49 (fun x y => x - y)),
  (49, t_mm 52 (fun x y => if x < y then y else x)),
  (52, t_pI 55 6 103),
  (55, t_al 56 2),
  (56, t_al 57 2),
  (57, t_gI 60 7 126),
  (60, t_pI 63 7 130),
  (63, t_go 81),
  (66, t_al 67 3),
  (67, t_push 69 (.int 100)),
  (69, t_al 70 3),
  (70, t_gI 73 6 103),
  (73, t_push 74 (.int 2)),
  (74, t_bin 75 (fun x y => x + y)),
  (75, t_mm 78 (fun x y => if y < x then y else x)),
  (78, t_pI 81 6 103),
  (81, t_al 82 3),
  (82, t_gI 85 6 103),
  (85, t_iret)]
set_option maxRecDepth 4000 in
theorem en_X9_inspect (E : kx_E) {av : List Value} {M : kx_M} {k ks : Nat} {Qr : kx_Q} (hlen : (lg_sl av).length ≤ 4) (h : ∀ G : kx_K, kx_all G Qr (cd_X9_inspect E) → G k ks 0 (lv_args 0 av) [] M) : c2t_X9_inspect E av M k ks Qr := by
  refine kx_enter (by decide) rfl hlen (own := RX9) rfl (cd := cd_X9_inspect E) ?_ h
  intro p e s m below meth c C hr hl hnm
  exact ⟨ok_aload_n C dX9_inspect_0 rfl,
    ok_iload_n C dX9_inspect_1 rfl,
    ok_fun (ok_callV C (kx_w2_rcv E) (ci := 10) (Cn := RX9) (T := TX9) (N := 18) rfl (n := 1) gX9_inspect_X9_lotAt rfl (by decide +kernel) ⟨Nat.le_of_ble_eq_true rfl, Nat.le_of_ble_eq_true rfl⟩ dX9_inspect_2) (fun av M h => f2_X9_lotAt_ok E h) (Or.inr (fun av M h => f2_X9_lotAt_rc E h)),
    ok_astore_n C dX9_inspect_5 rfl (by decide),
    ok_aload_n C dX9_inspect_6 rfl,
    ok_gI C (ci := 6) (k := 9) (Cn := RX5) (T := TX5) (N := 12) (index := 146) (ref := "Bloomclock$Lot") (kx_w2_good E) rfl rfl (by decide) hiX9_inspect_6 mX9_inspect_0 (fun _ h9 => h9) rfl dX9_inspect_7,
    ok_iconst C dX9_inspect_10 (by decide),
    ok_ic_eq C dX9_inspect_11 (by decide),
    ok_no,
    ok_aload_n C dX9_inspect_24 rfl,
    ok_gR C (ci := 6) (k := 1) (Cn := RX5) (T := TX5) (N := 12) (index := 161) (ref := "Bloomclock$Lot") (kx_w2_good E) rfl rfl (by decide) hiX9_inspect_6 mX9_inspect_2 (fun _ h9 => h9) rfl dX9_inspect_25,
    ok_astore_n C dX9_inspect_28 rfl (by decide),
    ok_aload_n C dX9_inspect_29 rfl,
    ok_gI C (ci := 6) (k := 10) (Cn := RX5) (T := TX5) (N := 12) (index := 183) (ref := "Bloomclock$Lot") (kx_w2_good E) rfl rfl (by decide) hiX9_inspect_6 mX9_inspect_3 (fun _ h9 => h9) rfl dX9_inspect_30,
    ok_aload_n C dX9_inspect_33 rfl,
    ok_gI C (ci := 6) (k := 6) (Cn := RX5) (T := TX5) (N := 12) (index := 191) (ref := "Bloomclock$Lot") (kx_w2_good E) rfl rfl (by decide) hiX9_inspect_6 mX9_inspect_4 (fun _ h9 => h9) rfl dX9_inspect_34,
    ok_ic_le C dX9_inspect_37 (by decide),
    ok_aload_n C dX9_inspect_40 rfl,
    ok_iconst C dX9_inspect_41 (by decide),
    ok_aload_n C dX9_inspect_42 rfl,
    ok_gI C (ci := 5) (k := 3) (Cn := RX4) (T := TX4) (N := 5) (index := 194) (ref := "Bloomclock$Grower") (kx_w2_good E) rfl rfl (by decide) hiX9_inspect_5 mX9_inspect_5 (fun _ h9 => h9) rfl dX9_inspect_43,
    ok_bipush C dX9_inspect_46 (by decide),
    ok_isub C dX9_inspect_48,
    ok_max C mX9_inspect_7 mX9_inspect_8 mX9_inspect_9 mX9_inspect_10 ⟨Nat.le_of_ble_eq_true rfl, Nat.le_of_ble_eq_true rfl⟩ dX9_inspect_49,
    ok_pI C (ci := 5) (k := 3) (Cn := RX4) (T := TX4) (N := 5) (index := 194) (ref := "Bloomclock$Grower") (kx_w2_good E) rfl rfl (by decide) hiX9_inspect_5 mX9_inspect_5 (fun _ h9 => h9) tyX4 tyX4_ok nmX4 rfl (by decide +kernel) rfl dX9_inspect_52,
    ok_aload_n C dX9_inspect_55 rfl,
    ok_aload_n C dX9_inspect_56 rfl,
    ok_gI C (ci := 6) (k := 6) (Cn := RX5) (T := TX5) (N := 12) (index := 191) (ref := "Bloomclock$Lot") (kx_w2_good E) rfl rfl (by decide) hiX9_inspect_6 mX9_inspect_4 (fun _ h9 => h9) rfl dX9_inspect_57,
    ok_pI C (ci := 6) (k := 10) (Cn := RX5) (T := TX5) (N := 12) (index := 183) (ref := "Bloomclock$Lot") (kx_w2_good E) rfl rfl (by decide) hiX9_inspect_6 mX9_inspect_3 (fun _ h9 => h9) tyX5 tyX5_ok nmX5 rfl (by decide +kernel) rfl dX9_inspect_60,
    ok_goto C dX9_inspect_63 (by decide),
    ok_aload_n C dX9_inspect_66 rfl,
    ok_bipush C dX9_inspect_67 (by decide),
    ok_aload_n C dX9_inspect_69 rfl,
    ok_gI C (ci := 5) (k := 3) (Cn := RX4) (T := TX4) (N := 5) (index := 194) (ref := "Bloomclock$Grower") (kx_w2_good E) rfl rfl (by decide) hiX9_inspect_5 mX9_inspect_5 (fun _ h9 => h9) rfl dX9_inspect_70,
    ok_iconst C dX9_inspect_73 (by decide),
    ok_iadd C dX9_inspect_74,
    ok_min C mX9_inspect_11 mX9_inspect_12 mX9_inspect_9 mX9_inspect_13 ⟨Nat.le_of_ble_eq_true rfl, Nat.le_of_ble_eq_true rfl⟩ dX9_inspect_75,
    ok_pI C (ci := 5) (k := 3) (Cn := RX4) (T := TX4) (N := 5) (index := 194) (ref := "Bloomclock$Grower") (kx_w2_good E) rfl rfl (by decide) hiX9_inspect_5 mX9_inspect_5 (fun _ h9 => h9) tyX4 tyX4_ok nmX4 rfl (by decide +kernel) rfl dX9_inspect_78,
    ok_aload_n C dX9_inspect_81 rfl,
    ok_gI C (ci := 5) (k := 3) (Cn := RX4) (T := TX4) (N := 5) (index := 194) (ref := "Bloomclock$Grower") (kx_w2_good E) rfl rfl (by decide) hiX9_inspect_5 mX9_inspect_5 (fun _ h9 => h9) rfl dX9_inspect_82,
    ok_iret C hr hl dX9_inspect_85, trivial⟩
