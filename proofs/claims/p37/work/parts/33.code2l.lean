theorem mX9_grower_0 : Cond.fieldLink RX9 10 "Bloomclock" "growers" "Ljava/util/ArrayList;" ∈ wsX9_grower := by decide +kernel
theorem hiX9_grower_10 : ∀ w ∈ u_ws RX9 TX9 18, w ∈ wsX9_grower := by decide +kernel
theorem hiX9_grower_5 : ∀ w ∈ u_ws RX4 TX4 5, w ∈ wsX9_grower := by decide +kernel
theorem mX9_grower_3 : Cond.classLink RX9 74 RX4 ∈ wsX9_grower := by decide +kernel
theorem mX9_grower_4 : Cond.instantiable RX4 5 ∈ wsX9_grower := by decide +kernel
theorem mX9_grower_5 : Cond.initialized RX4 ∈ wsX9_grower := by decide +kernel
theorem mX9_grower_6 : Cond.instanceMethod yX4_init ∈ wsX9_grower := by decide +kernel
abbrev c2t_X9_grower (E : kx_E) (av : List Value) (M : kx_M) (k ks : Nat) (Q : kx_Q) : Prop := kx_CT E (kx_w2 E) yX9_grower wsX9_grower 7 158 av M k ks Q
def cd_X9_grower (E : kx_E) : List (Nat × kx_T) := [
  (0, t_al 1 0),
  (1, t_gR 4 11 200),
  (4, t_fun (f2_Jx4a65c_size_8abf5 E) 0 0 7 1),
  (7, t_push 8 (.int 4)),
  (8, t_ic 11 21 (fun x y => x < y)),
  (11, t_no),
  (21, t_al 22 0),
  (22, t_gR 25 11 200),
  (25, t_new 28 6 5),
  (28, t_dup 29),
  (29, t_call (c2t_X4_init E) 32 1 6),
  (32, t_fun (f2_Jx4a65c_add_9ea2d E) 1 1500 35 2),
  (35, t_pop 36),
  (36, t_al 37 0),
  (37, t_gR 40 11 200),
  (40, t_fun (f2_Jx4a65c_size_8abf5 E) 0 0 43 1),
  (43, t_push 44 (.int 1)),
  (44, t_bin 45 (fun x y => x - y)),
  (45, t_iret)]
set_option maxRecDepth 4000 in
theorem en_X9_grower (E : kx_E) {av : List Value} {M : kx_M} {k ks : Nat} {Qr : kx_Q} (hlen : (lg_sl av).length ≤ 1) (h : ∀ G : kx_K, kx_all G Qr (cd_X9_grower E) → G k ks 0 (lv_args 0 av) [] M) : c2t_X9_grower E av M k ks Qr := by
  refine kx_enter (by decide) rfl hlen (own := RX9) rfl (cd := cd_X9_grower E) ?_ h
  intro p e s m below meth c C hr hl hnm
  exact ⟨ok_aload_n C dX9_grower_0 rfl,
    ok_gR C (ci := 10) (k := 0) (Cn := RX9) (T := TX9) (N := 18) (index := 10) (ref := "Bloomclock") (kx_w2_good E) rfl rfl (by decide) hiX9_grower_10 mX9_grower_0 (fun _ h9 => h9) rfl dX9_grower_1,
    ok_fun (ok_callV C (kx_w2_rcv E) (ci := 0) (Cn := RJx4a65c) (T := TJx4a65c) (N := 3) rfl (n := 0) gX9_grower_Jx4a65c_size_8abf5 rfl (by decide +kernel) ⟨Nat.le_of_ble_eq_true rfl, Nat.le_of_ble_eq_true rfl⟩ dX9_grower_4) (fun av M h => f2_Jx4a65c_size_8abf5_ok E h) (Or.inr (fun av M h => f2_Jx4a65c_size_8abf5_rc E h)),
    ok_iconst C dX9_grower_7 (by decide),
    ok_ic_lt C dX9_grower_8 (by decide),
    ok_no,
    ok_aload_n C dX9_grower_21 rfl,
    ok_gR C (ci := 10) (k := 0) (Cn := RX9) (T := TX9) (N := 18) (index := 10) (ref := "Bloomclock") (kx_w2_good E) rfl rfl (by decide) hiX9_grower_10 mX9_grower_0 (fun _ h9 => h9) rfl dX9_grower_22,
    ok_new C (ci := 5) (Cn := RX4) (T := TX4) (N := 5) (index := 74) (kx_w2_good E) rfl hiX9_grower_5 mX9_grower_3 mX9_grower_4 mX9_grower_5 tyX4 tyX4_ok (by decide +kernel) dX9_grower_25,
    ok_dup C dX9_grower_28,
    ok_callIN C (n := 0) (kv := 6) (by decide) (i := 1) rfl gX9_grower_X4_init_n76 rfl mX9_grower_5 mX9_grower_6 rfl (by decide +kernel) ⟨Nat.le_of_ble_eq_true rfl, Nat.le_of_ble_eq_true rfl⟩ dX9_grower_29,
    ok_fun (ok_callV C (kx_w2_rcv E) (ci := 0) (Cn := RJx4a65c) (T := TJx4a65c) (N := 3) rfl (n := 1) gX9_grower_Jx4a65c_add_9ea2d rfl (by decide +kernel) ⟨Nat.le_of_ble_eq_true rfl, Nat.le_of_ble_eq_true rfl⟩ dX9_grower_32) (fun av M h => f2_Jx4a65c_add_9ea2d_ok E h) (Or.inr (fun av M h => f2_Jx4a65c_add_9ea2d_rc E h)),
    ok_pop C dX9_grower_35,
    ok_aload_n C dX9_grower_36 rfl,
    ok_gR C (ci := 10) (k := 0) (Cn := RX9) (T := TX9) (N := 18) (index := 10) (ref := "Bloomclock") (kx_w2_good E) rfl rfl (by decide) hiX9_grower_10 mX9_grower_0 (fun _ h9 => h9) rfl dX9_grower_37,
    ok_fun (ok_callV C (kx_w2_rcv E) (ci := 0) (Cn := RJx4a65c) (T := TJx4a65c) (N := 3) rfl (n := 0) gX9_grower_Jx4a65c_size_8abf5 rfl (by decide +kernel) ⟨Nat.le_of_ble_eq_true rfl, Nat.le_of_ble_eq_true rfl⟩ dX9_grower_40) (fun av M h => f2_Jx4a65c_size_8abf5_ok E h) (Or.inr (fun av M h => f2_Jx4a65c_size_8abf5_rc E h)),
    ok_iconst C dX9_grower_43 (by decide),
    ok_isub C dX9_grower_44,
    ok_iret C hr hl dX9_grower_45, trivial⟩

theorem mX9_buyer_0 : Cond.static yX9_isWithin ∈ wsX9_buyer := by decide +kernel
theorem mX9_buyer_1 : Cond.methodLink RX9 85 yX9_isWithin ∈ wsX9_buyer := by decide +kernel
theorem mX9_buyer_2 : Cond.initialized RX9 ∈ wsX9_buyer := by decide +kernel
theorem mX9_buyer_3 : Cond.fieldLink RX9 25 "Bloomclock" "buyers" "Ljava/util/ArrayList;" ∈ wsX9_buyer := by decide +kernel
theorem hiX9_buyer_10 : ∀ w ∈ u_ws RX9 TX9 18, w ∈ wsX9_buyer := by decide +kernel
theorem hiX9_buyer_1 : ∀ w ∈ u_ws RX0 TX0 11, w ∈ wsX9_buyer := by decide +kernel
theorem mX9_buyer_6 : Cond.classLink RX9 210 RX0 ∈ wsX9_buyer := by decide +kernel
theorem mX9_buyer_7 : Cond.instantiable RX0 11 ∈ wsX9_buyer := by decide +kernel
theorem mX9_buyer_8 : Cond.initialized RX0 ∈ wsX9_buyer := by decide +kernel
theorem mX9_buyer_9 : Cond.methodLink RX9 212 yX0_init ∈ wsX9_buyer := by decide +kernel
theorem mX9_buyer_10 : Cond.instanceMethod yX0_init ∈ wsX9_buyer := by decide +kernel
abbrev c2t_X9_buyer (E : kx_E) (av : List Value) (M : kx_M) (k ks : Nat) (Q : kx_Q) : Prop := kx_CT E (kx_w2 E) yX9_buyer wsX9_buyer 7 158 av M k ks Q
def cd_X9_buyer (E : kx_E) : List (Nat × kx_T) := [
  (0, t_il 1 1),
  (1, t_push 2 (.int 0)),
  (2, t_push 4 (.int 9)),
  (4, t_fun (f2_X9_isWithin E) 0 0 7 3),
  (7, t_if 10 20 (fun x => x ≠ 0)),
  (10, t_no),
  (20, t_al 21 0),
  (21, t_gR 24 11 204),
  (24, t_fun (f2_Jx4a65c_size_8abf5 E) 0 0 27 1),
  (27, t_push 28 (.int 4)),
  (28, t_ic 31 41 (fun x y => x < y)),
  (31, t_no),
  (41, t_al 42 0),
  (42, t_gR 45 11 204),
  (45, t_new 48 2 11),
  (48, t_dup 49),
  (49, t_al 50 0),
  (50, t_gR 53 11 204),
  (53, t_fun (f2_Jx4a65c_size_8abf5 E) 0 0 56 1),
  (56, t_il 57 1),
  (57, t_call (c2t_X0_init E) 60 3 2),
  (60, t_fun (f2_Jx4a65c_add_9ea2d E) 1 1500 63 2),
  (63, t_pop 64),
  (64, t_al 65 0),
  (65, t_gR 68 11 204),
  (68, t_fun (f2_Jx4a65c_size_8abf5 E) 0 0 71 1),
  (71, t_push 72 (.int 1)),
  (72, t_bin 73 (fun x y => x - y)),
  (73, t_iret)]
set_option maxRecDepth 4000 in
theorem en_X9_buyer (E : kx_E) {av : List Value} {M : kx_M} {k ks : Nat} {Qr : kx_Q} (hlen : (lg_sl av).length ≤ 2) (h : ∀ G : kx_K, kx_all G Qr (cd_X9_buyer E) → G k ks 0 (lv_args 0 av) [] M) : c2t_X9_buyer E av M k ks Qr := by
  refine kx_enter (by decide) rfl hlen (own := RX9) rfl (cd := cd_X9_buyer E) ?_ h
  intro p e s m below meth c C hr hl hnm
  exact ⟨ok_iload_n C dX9_buyer_0 rfl,
    ok_iconst C dX9_buyer_1 (by decide),
    ok_bipush C dX9_buyer_2 (by decide),
    ok_fun (ok_callT C (n := 3) ggX9_buyer_X9_isWithin mX9_buyer_0 mX9_buyer_1 mX9_buyer_2 rfl (by decide +kernel) ⟨Nat.le_of_ble_eq_true rfl, Nat.le_of_ble_eq_true rfl⟩ dX9_buyer_4) (fun av M h => f2_X9_isWithin_ok E h) (Or.inl rfl),
    ok_if_ne C dX9_buyer_7 (by decide),
    ok_no,
    ok_aload_n C dX9_buyer_20 rfl,
    ok_gR C (ci := 10) (k := 4) (Cn := RX9) (T := TX9) (N := 18) (index := 25) (ref := "Bloomclock") (kx_w2_good E) rfl rfl (by decide) hiX9_buyer_10 mX9_buyer_3 (fun _ h9 => h9) rfl dX9_buyer_21,
    ok_fun (ok_callV C (kx_w2_rcv E) (ci := 0) (Cn := RJx4a65c) (T := TJx4a65c) (N := 3) rfl (n := 0) gX9_buyer_Jx4a65c_size_8abf5 rfl (by decide +kernel) ⟨Nat.le_of_ble_eq_true rfl, Nat.le_of_ble_eq_true rfl⟩ dX9_buyer_24) (fun av M h => f2_Jx4a65c_size_8abf5_ok E h) (Or.inr (fun av M h => f2_Jx4a65c_size_8abf5_rc E h)),
    ok_iconst C dX9_buyer_27 (by decide),
    ok_ic_lt C dX9_buyer_28 (by decide),
    ok_no,
    ok_aload_n C dX9_buyer_41 rfl,
    ok_gR C (ci := 10) (k := 4) (Cn := RX9) (T := TX9) (N := 18) (index := 25) (ref := "Bloomclock") (kx_w2_good E) rfl rfl (by decide) hiX9_buyer_10 mX9_buyer_3 (fun _ h9 => h9) rfl dX9_buyer_42,
    ok_new C (ci := 1) (Cn := RX0) (T := TX0) (N := 11) (index := 210) (kx_w2_good E) rfl hiX9_buyer_1 mX9_buyer_6 mX9_buyer_7 mX9_buyer_8 tyX0 tyX0_ok (by decide +kernel) dX9_buyer_45,
    ok_dup C dX9_buyer_48,
    ok_aload_n C dX9_buyer_49 rfl,
    ok_gR C (ci := 10) (k := 4) (Cn := RX9) (T := TX9) (N := 18) (index := 25) (ref := "Bloomclock") (kx_w2_good E) rfl rfl (by decide) hiX9_buyer_10 mX9_buyer_3 (fun _ h9 => h9) rfl dX9_buyer_50,
    ok_fun (ok_callV C (kx_w2_rcv E) (ci := 0) (Cn := RJx4a65c) (T := TJx4a65c) (N := 3) rfl (n := 0) gX9_buyer_Jx4a65c_size_8abf5 rfl (by decide +kernel) ⟨Nat.le_of_ble_eq_true rfl, Nat.le_of_ble_eq_true rfl⟩ dX9_buyer_53) (fun av M h => f2_Jx4a65c_size_8abf5_ok E h) (Or.inr (fun av M h => f2_Jx4a65c_size_8abf5_rc E h)),
    ok_iload_n C dX9_buyer_56 rfl,
    ok_callI C (n := 2) (kv := 2) (by decide) gX9_buyer_X0_init rfl mX9_buyer_8 mX9_buyer_9 mX9_buyer_10 rfl (by decide +kernel) ⟨Nat.le_of_ble_eq_true rfl, Nat.le_of_ble_eq_true rfl⟩ dX9_buyer_57,
    ok_fun (ok_callV C (kx_w2_rcv E) (ci := 0) (Cn := RJx4a65c) (T := TJx4a65c) (N := 3) rfl (n := 1) gX9_buyer_Jx4a65c_add_9ea2d rfl (by decide +kernel) ⟨Nat.le_of_ble_eq_true rfl, Nat.le_of_ble_eq_true rfl⟩ dX9_buyer_60) (fun av M h => f2_Jx4a65c_add_9ea2d_ok E h) (Or.inr (fun av M h => f2_Jx4a65c_add_9ea2d_rc E h)),
    ok_pop C dX9_buyer_63,
    ok_aload_n C dX9_buyer_64 rfl,
    ok_gR C (ci := 10) (k := 4) (Cn := RX9) (T := TX9) (N := 18) (index := 25) (ref := "Bloomclock") (kx_w2_good E) rfl rfl (by decide) hiX9_buyer_10 mX9_buyer_3 (fun _ h9 => h9) rfl dX9_buyer_65,
    ok_fun (ok_callV C (kx_w2_rcv E) (ci := 0) (Cn := RJx4a65c) (T := TJx4a65c) (N := 3) rfl (n := 0) gX9_buyer_Jx4a65c_size_8abf5 rfl (by decide +kernel) ⟨Nat.le_of_ble_eq_true rfl, Nat.le_of_ble_eq_true rfl⟩ dX9_buyer_68) (fun av M h => f2_Jx4a65c_size_8abf5_ok E h) (Or.inr (fun av M h => f2_Jx4a65c_size_8abf5_rc E h)),
    ok_iconst C dX9_buyer_71 (by decide),
    ok_isub C dX9_buyer_72,
    ok_iret C hr hl dX9_buyer_73, trivial⟩

theorem mX9_order_0 : Cond.static yX9_isCultivar ∈ wsX9_order := by decide +kernel
theorem mX9_order_1 : Cond.methodLink RX9 97 yX9_isCultivar ∈ wsX9_order := by decide +kernel
theorem mX9_order_2 : Cond.initialized RX9 ∈ wsX9_order := by decide +kernel
theorem mX9_order_3 : Cond.static yX9_isWithin ∈ wsX9_order := by decide +kernel
theorem mX9_order_4 : Cond.methodLink RX9 85 yX9_isWithin ∈ wsX9_order := by decide +kernel
theorem mX9_order_5 : Cond.fieldLink RX9 28 "Bloomclock" "orders" "Ljava/util/ArrayList;" ∈ wsX9_order := by decide +kernel
theorem hiX9_order_10 : ∀ w ∈ u_ws RX9 TX9 18, w ∈ wsX9_order := by decide +kernel
theorem hiX9_order_7 : ∀ w ∈ u_ws RX6 TX6 8, w ∈ wsX9_order := by decide +kernel
theorem mX9_order_8 : Cond.classLink RX9 232 RX6 ∈ wsX9_order := by decide +kernel
theorem mX9_order_9 : Cond.instantiable RX6 8 ∈ wsX9_order := by decide +kernel
theorem mX9_order_10 : Cond.initialized RX6 ∈ wsX9_order := by decide +kernel
theorem mX9_order_11 : Cond.methodLink RX9 234 yX6_init ∈ wsX9_order := by decide +kernel
theorem mX9_order_12 : Cond.instanceMethod yX6_init ∈ wsX9_order := by decide +kernel
abbrev c2t_X9_order (E : kx_E) (av : List Value) (M : kx_M) (k ks : Nat) (Q : kx_Q) : Prop := kx_CT E (kx_w2 E) yX9_order wsX9_order 7 158 av M k ks Q
def cd_X9_order (E : kx_E) : List (Nat × kx_T) := [
  (0, t_al 1 0),
  (1, t_il 2 1),
  (2, t_fun (f2_X9_buyerAt E) 0 0 5 2),
  (5, t_as 7 8),
  (7, t_il 8 2),
  (8, t_fun (f2_X9_isCultivar E) 0 0 11 1),
  (11, t_if 14 49 (fun x => x = 0)),
  (14, t_il 15 3),
  (15, t_push 16 (.int 0)),
  (16, t_push 17 (.int 2)),
  (17, t_fun (f2_X9_isWithin E) 0 0 20 3),
  (20, t_if 23 49 (fun x => x = 0)),
  (23, t_il 25 4),
  (25, t_push 26 (.int 0)),
  (26, t_push 28 (.int 110)),
  (28, t_fun (f2_X9_isWithin E) 0 0 31 3),
  (31, t_if 34 49 (fun x => x = 0)),
  (34, t_il 36 5),
  (36, t_push 37 (.int 0)),
  (37, t_push 39 (.int 100)),
  (39, t_fun (f2_X9_isWithin E) 0 0 42 3),
  (42, t_if 45 49 (fun x => x = 0)),
  (45, t_push 46 (.int 1)),
  (46, t_go 50),
  (49, t_push 50 (.int 0)),
  (50, t_is 52 9),
  (52, t_il 54 9),
  (54, t_if 57 80 (fun x => x = 0)),
  (57, t_il 59 6),
  (59, t_push 60 (.int 1)),
  (60, t_push 62 (.int 99)),
  (62, t_fun (f2_X9_isWithin E) 0 0 65 3),
  (65, t_if 68 80 (fun x => x = 0)),
  (68, t_il 70 7),
  (70, t_push 71 (.int 1)),
  (71, t_push 74 (.int 500)),
  (74, t_fun (f2_X9_isWithin E) 0 0 77 3),
  (77, t_if 80 90 (fun x => x ≠ 0)),
  (80, t_no),
  (90, t_al 91 0),
  (91, t_gR 94 11 205),
  (94, t_fun (f2_Jx4a65c_size_8abf5 E) 0 0 97 1),
  (97, t_push 99 (.int 12)),
  (99, t_ic 102 112 (fun x y => x < y)),
  (102, t_no),
  (112, t_al 113 0),
  (113, t_gR 116 11 205),
  (116, t_new 119 8 8),
  (119, t_dup 120),
  (120, t_al 122 8),
  (122, t_il 123 2),
  (123, t_il 124 3),
  (124, t_il 126 4),
  (126, t_il 128 5),
  (128, t_il 130 6),
  (130, t_il 132 7),
  (132, t_fun (f2_X6_init E) 0 0 135 8),
  (135, t_fun (f2_Jx4a65c_add_9ea2d E) 1 1500 138 2),
  (138, t_pop 139),
  (139, t_al 140 0),
  (140, t_gR 143 11 205),
  (143, t_fun (f2_Jx4a65c_size_8abf5 E) 0 0 146 1),
  (146, t_push 147 (.int 1)),
  (147, t_bin 148 (fun x y => x - y)),
  (148, t_iret)]
set_option maxRecDepth 4000 in
theorem en_X9_order (E : kx_E) {av : List Value} {M : kx_M} {k ks : Nat} {Qr : kx_Q} (hlen : (lg_sl av).length ≤ 10) (h : ∀ G : kx_K, kx_all G Qr (cd_X9_order E) → G k ks 0 (lv_args 0 av) [] M) : c2t_X9_order E av M k ks Qr := by
  refine kx_enter (by decide) rfl hlen (own := RX9) rfl (cd := cd_X9_order E) ?_ h
  intro p e s m below meth c C hr hl hnm
  exact ⟨ok_aload_n C dX9_order_0 rfl,
    ok_iload_n C dX9_order_1 rfl,
    ok_fun (ok_callV C (kx_w2_rcv E) (ci := 10) (Cn := RX9) (T := TX9) (N := 18) rfl (n := 1) gX9_order_X9_buyerAt rfl (by decide +kernel) ⟨Nat.le_of_ble_eq_true rfl, Nat.le_of_ble_eq_true rfl⟩ dX9_order_2) (fun av M h => f2_X9_buyerAt_ok E h) (Or.inr (fun av M h => f2_X9_buyerAt_rc E h)),
    ok_astore C dX9_order_5 (by decide),
    ok_iload_n C dX9_order_7 rfl,
    ok_fun (ok_callT C (n := 1) ggX9_order_X9_isCultivar mX9_order_0 mX9_order_1 mX9_order_2 rfl (by decide +kernel) ⟨Nat.le_of_ble_eq_true rfl, Nat.le_of_ble_eq_true rfl⟩ dX9_order_8) (fun av M h => f2_X9_isCultivar_ok E h) (Or.inl rfl),
    ok_if_eq C dX9_order_11 (by decide),
    ok_iload_n C dX9_order_14 rfl,
    ok_iconst C dX9_order_15 (by decide),
    ok_iconst C dX9_order_16 (by decide),
    ok_fun (ok_callT C (n := 3) ggX9_order_X9_isWithin mX9_order_3 mX9_order_4 mX9_order_2 rfl (by decide +kernel) ⟨Nat.le_of_ble_eq_true rfl, Nat.le_of_ble_eq_true rfl⟩ dX9_order_17) (fun av M h => f2_X9_isWithin_ok E h) (Or.inl rfl),
    ok_if_eq C dX9_order_20 (by decide),
    ok_iload C dX9_order_23,
    ok_iconst C dX9_order_25 (by decide),
    ok_bipush C dX9_order_26 (by decide),
    ok_fun (ok_callT C (n := 3) ggX9_order_X9_isWithin mX9_order_3 mX9_order_4 mX9_order_2 rfl (by decide +kernel) ⟨Nat.le_of_ble_eq_true rfl, Nat.le_of_ble_eq_true rfl⟩ dX9_order_28) (fun av M h => f2_X9_isWithin_ok E h) (Or.inl rfl),
    ok_if_eq C dX9_order_31 (by decide),
    ok_iload C dX9_order_34,
    ok_iconst C dX9_order_36 (by decide),
    ok_bipush C dX9_order_37 (by decide),
    ok_fun (ok_callT C (n := 3) ggX9_order_X9_isWithin mX9_order_3 mX9_order_4 mX9_order_2 rfl (by decide +kernel) ⟨Nat.le_of_ble_eq_true rfl, Nat.le_of_ble_eq_true rfl⟩ dX9_order_39) (fun av M h => f2_X9_isWithin_ok E h) (Or.inl rfl),
    ok_if_eq C dX9_order_42 (by decide),
    ok_iconst C dX9_order_45 (by decide),
    ok_goto C dX9_order_46 (by decide),
    ok_iconst C dX9_order_49 (by decide),
    ok_istore C dX9_order_50 (by decide),
    ok_iload C dX9_order_52,
    ok_if_eq C dX9_order_54 (by decide),
    ok_iload C dX9_order_57,
    ok_iconst C dX9_order_59 (by decide),
    ok_bipush C dX9_order_60 (by decide),
    ok_fun (ok_callT C (n := 3) ggX9_order_X9_isWithin mX9_order_3 mX9_order_4 mX9_order_2 rfl (by decide +kernel) ⟨Nat.le_of_ble_eq_true rfl, Nat.le_of_ble_eq_true rfl⟩ dX9_order_62) (fun av M h => f2_X9_isWithin_ok E h) (Or.inl rfl),
    ok_if_eq C dX9_order_65 (by decide),
    ok_iload C dX9_order_68,
    ok_iconst C dX9_order_70 (by decide),
    ok_sipush C dX9_order_71 (by decide),
    ok_fun (ok_callT C (n := 3) ggX9_order_X9_isWithin mX9_order_3 mX9_order_4 mX9_order_2 rfl (by decide +kernel) ⟨Nat.le_of_ble_eq_true rfl, Nat.le_of_ble_eq_true rfl⟩ dX9_order_74) (fun av M h => f2_X9_isWithin_ok E h) (Or.inl rfl),
    ok_if_ne C dX9_order_77 (by decide),
    ok_no,
    ok_aload_n C dX9_order_90 rfl,
    ok_gR C (ci := 10) (k := 5) (Cn := RX9) (T := TX9) (N := 18) (index := 28) (ref := "Bloomclock") (kx_w2_good E) rfl rfl (by decide) hiX9_order_10 mX9_order_5 (fun _ h9 => h9) rfl dX9_order_91,
    ok_fun (ok_callV C (kx_w2_rcv E) (ci := 0) (Cn := RJx4a65c) (T := TJx4a65c) (N := 3) rfl (n := 0) gX9_order_Jx4a65c_size_8abf5 rfl (by decide +kernel) ⟨Nat.le_of_ble_eq_true rfl, Nat.le_of_ble_eq_true rfl⟩ dX9_order_94) (fun av M h => f2_Jx4a65c_size_8abf5_ok E h) (Or.inr (fun av M h => f2_Jx4a65c_size_8abf5_rc E h)),
    ok_bipush C dX9_order_97 (by decide),
    ok_ic_lt C dX9_order_99 (by decide),
    ok_no,
    ok_aload_n C dX9_order_112 rfl,
    ok_gR C (ci := 10) (k := 5) (Cn := RX9) (T := TX9) (N := 18) (index := 28) (ref := "Bloomclock") (kx_w2_good E) rfl rfl (by decide) hiX9_order_10 mX9_order_5 (fun _ h9 => h9) rfl dX9_order_113,
    ok_new C (ci := 7) (Cn := RX6) (T := TX6) (N := 8) (index := 232) (kx_w2_good E) rfl hiX9_order_7 mX9_order_8 mX9_order_9 mX9_order_10 tyX6 tyX6_ok (by decide +kernel) dX9_order_116,
    ok_dup C dX9_order_119,
    ok_aload C dX9_order_120,
    ok_iload_n C dX9_order_122 rfl,
    ok_iload_n C dX9_order_123 rfl,
    ok_iload C dX9_order_124,
    ok_iload C dX9_order_126,
    ok_iload C dX9_order_128,
    ok_iload C dX9_order_130,
    ok_fun (ok_callI C (n := 7) (kv := 8) (by decide) gX9_order_X6_init rfl mX9_order_10 mX9_order_11 mX9_order_12 rfl (by decide +kernel) ⟨Nat.le_of_ble_eq_true rfl, Nat.le_of_ble_eq_true rfl⟩ dX9_order_132) (fun av M h => f2_X6_init_ok E h) (Or.inr (fun av M h => f2_X6_init_rc E h)),
    ok_fun (ok_callV C (kx_w2_rcv E) (ci := 0) (Cn := RJx4a65c) (T := TJx4a65c) (N := 3) rfl (n := 1) gX9_order_Jx4a65c_add_9ea2d rfl (by decide +kernel) ⟨Nat.le_of_ble_eq_true rfl, Nat.le_of_ble_eq_true rfl⟩ dX9_order_135) (fun av M h => f2_Jx4a65c_add_9ea2d_ok E h) (Or.inr (fun av M h => f2_Jx4a65c_add_9ea2d_rc E h)),
    ok_pop C dX9_order_138,
    ok_aload_n C dX9_order_139 rfl,
    ok_gR C (ci := 10) (k := 5) (Cn := RX9) (T := TX9) (N := 18) (index := 28) (ref := "Bloomclock") (kx_w2_good E) rfl rfl (by decide) hiX9_order_10 mX9_order_5 (fun _ h9 => h9) rfl dX9_order_140,
    ok_fun (ok_callV C (kx_w2_rcv E) (ci := 0) (Cn := RJx4a65c) (T := TJx4a65c) (N := 3) rfl (n := 0) gX9_order_Jx4a65c_size_8abf5 rfl (by decide +kernel) ⟨Nat.le_of_ble_eq_true rfl, Nat.le_of_ble_eq_true rfl⟩ dX9_order_143) (fun av M h => f2_Jx4a65c_size_8abf5_ok E h) (Or.inr (fun av M h => f2_Jx4a65c_size_8abf5_rc E h)),
    ok_iconst C dX9_order_146 (by decide),
    ok_isub C dX9_order_147,
    ok_iret C hr hl dX9_order_148, trivial⟩

theorem mX9_plant_0 : Cond.static yX9_isCultivar ∈ wsX9_plant := by decide +kernel
theorem mX9_plant_1 : Cond.methodLink RX9 97 yX9_isCultivar ∈ wsX9_plant := by decide +kernel
theorem mX9_plant_2 : Cond.initialized RX9 ∈ wsX9_plant := by decide +kernel
theorem mX9_plant_3 : Cond.static yX9_isWithin ∈ wsX9_plant := by decide +kernel
theorem mX9_plant_4 : Cond.methodLink RX9 85 yX9_isWithin ∈ wsX9_plant := by decide +kernel
theorem mX9_plant_5 : Cond.fieldLink RX9 16 "Bloomclock" "crops" "Ljava/util/ArrayList;" ∈ wsX9_plant := by decide +kernel
theorem hiX9_plant_10 : ∀ w ∈ u_ws RX9 TX9 18, w ∈ wsX9_plant := by decide +kernel
theorem hiX9_plant_4 : ∀ w ∈ u_ws RX3 TX3 7, w ∈ wsX9_plant := by decide +kernel
theorem mX9_plant_8 : Cond.classLink RX9 105 RX3 ∈ wsX9_plant := by decide +kernel
theorem mX9_plant_9 : Cond.instantiable RX3 7 ∈ wsX9_plant := by decide +kernel
theorem mX9_plant_10 : Cond.initialized RX3 ∈ wsX9_plant := by decide +kernel
theorem mX9_plant_11 : Cond.methodLink RX9 107 yX3_init ∈ wsX9_plant := by decide +kernel
theorem mX9_plant_12 : Cond.instanceMethod yX3_init ∈ wsX9_plant := by decide +kernel
abbrev c2t_X9_plant (E : kx_E) (av : List Value) (M : kx_M) (k ks : Nat) (Q : kx_Q) : Prop := kx_CT E (kx_w2 E) yX9_plant wsX9_plant 7 158 av M k ks Q
def cd_X9_plant (E : kx_E) : List (Nat × kx_T) := [
  (0, t_al 1 0),
  (1, t_il 2 1),
  (2, t_fun (f2_X9_growerAt E) 0 0 5 2),
  (5, t_as 7 4),
  (7, t_il 8 2),
  (8, t_fun (f2_X9_isCultivar E) 0 0 11 1),
  (11, t_if 14 25 (fun x => x = 0)),
  (14, t_il 15 3),
  (15, t_push 16 (.int 1)),
  (16, t_push 19 (.int 200)),
  (19, t_fun (f2_X9_isWithin E) 0 0 22 3),
  (22, t_if 25 35 (fun x => x ≠ 0)),
  (25, t_no),
  (35, t_al 36 0),
  (36, t_gR 39 11 201),
  (39, t_fun (f2_Jx4a65c_size_8abf5 E) 0 0 42 1),
  (42, t_push 44 (.int 8)),
  (44, t_ic 47 57 (fun x y => x < y)),
  (47, t_no),
  (57, t_al 58 0),
  (58, t_gR 61 11 201),
  (61, t_new 64 5 7),
  (64, t_dup 65),
  (65, t_al 67 4),
  (67, t_il 68 1),
  (68, t_il 69 2),
  (69, t_il 70 3),
  (70, t_fun (f2_X3_init E) 0 0 73 5),
  (73, t_fun (f2_Jx4a65c_add_9ea2d E) 1 1500 76 2),
  (76, t_pop 77),
  (77, t_al 78 0),
  (78, t_gR 81 11 201),
  (81, t_fun (f2_Jx4a65c_size_8abf5 E) 0 0 84 1),
  (84, t_push 85 (.int 1)),
  (85, t_bin 86 (fun x y => x - y)),
  (86, t_iret)]
set_option maxRecDepth 4000 in
theorem en_X9_plant (E : kx_E) {av : List Value} {M : kx_M} {k ks : Nat} {Qr : kx_Q} (hlen : (lg_sl av).length ≤ 5) (h : ∀ G : kx_K, kx_all G Qr (cd_X9_plant E) → G k ks 0 (lv_args 0 av) [] M) : c2t_X9_plant E av M k ks Qr := by
  refine kx_enter (by decide) rfl hlen (own := RX9) rfl (cd := cd_X9_plant E) ?_ h
  intro p e s m below meth c C hr hl hnm
  exact ⟨ok_aload_n C dX9_plant_0 rfl,
    ok_iload_n C dX9_plant_1 rfl,
    ok_fun (ok_callV C (kx_w2_rcv E) (ci := 10) (Cn := RX9) (T := TX9) (N := 18) rfl (n := 1) gX9_plant_X9_growerAt rfl (by decide +kernel) ⟨Nat.le_of_ble_eq_true rfl, Nat.le_of_ble_eq_true rfl⟩ dX9_plant_2) (fun av M h => f2_X9_growerAt_ok E h) (Or.inr (fun av M h => f2_X9_growerAt_rc E h)),
    ok_astore C dX9_plant_5 (by decide),
    ok_iload_n C dX9_plant_7 rfl,
    ok_fun (ok_callT C (n := 1) ggX9_plant_X9_isCultivar mX9_plant_0 mX9_plant_1 mX9_plant_2 rfl (by decide +kernel) ⟨Nat.le_of_ble_eq_true rfl, Nat.le_of_ble_eq_true rfl⟩ dX9_plant_8) (fun av M h => f2_X9_isCultivar_ok E h) (Or.inl rfl),
    ok_if_eq C dX9_plant_11 (by decide),
    ok_iload_n C dX9_plant_14 rfl,
    ok_iconst C dX9_plant_15 (by decide),
    ok_sipush C dX9_plant_16 (by decide),
    ok_fun (ok_callT C (n := 3) ggX9_plant_X9_isWithin mX9_plant_3 mX9_plant_4 mX9_plant_2 rfl (by decide +kernel) ⟨Nat.le_of_ble_eq_true rfl, Nat.le_of_ble_eq_true rfl⟩ dX9_plant_19) (fun av M h => f2_X9_isWithin_ok E h) (Or.inl rfl),
    ok_if_ne C dX9_plant_22 (by decide),
    ok_no,
    ok_aload_n C dX9_plant_35 rfl,
    ok_gR C (ci := 10) (k := 1) (Cn := RX9) (T := TX9) (N := 18) (index := 16) (ref := "Bloomclock") (kx_w2_good E) rfl rfl (by decide) hiX9_plant_10 mX9_plant_5 (fun _ h9 => h9) rfl dX9_plant_36,
    ok_fun (ok_callV C (kx_w2_rcv E) (ci := 0) (Cn := RJx4a65c) (T := TJx4a65c) (N := 3) rfl (n := 0) gX9_plant_Jx4a65c_size_8abf5 rfl (by decide +kernel) ⟨Nat.le_of_ble_eq_true rfl, Nat.le_of_ble_eq_true rfl⟩ dX9_plant_39) (fun av M h => f2_Jx4a65c_size_8abf5_ok E h) (Or.inr (fun av M h => f2_Jx4a65c_size_8abf5_rc E h)),
    ok_bipush C dX9_plant_42 (by decide),
    ok_ic_lt C dX9_plant_44 (by decide),
    ok_no,
    ok_aload_n C dX9_plant_57 rfl,
    ok_gR C (ci := 10) (k := 1) (Cn := RX9) (T := TX9) (N := 18) (index := 16) (ref := "Bloomclock") (kx_w2_good E) rfl rfl (by decide) hiX9_plant_10 mX9_plant_5 (fun _ h9 => h9) rfl dX9_plant_58,
    ok_new C (ci := 4) (Cn := RX3) (T := TX3) (N := 7) (index := 105) (kx_w2_good E) rfl hiX9_plant_4 mX9_plant_8 mX9_plant_9 mX9_plant_10 tyX3 tyX3_ok (by decide +kernel) dX9_plant_61,
    ok_dup C dX9_plant_64,
    ok_aload C dX9_plant_65,
    ok_iload_n C dX9_plant_67 rfl,
    ok_iload_n C dX9_plant_68 rfl,
    ok_iload_n C dX9_plant_69 rfl,
    ok_fun (ok_callI C (n := 4) (kv := 5) (by decide) gX9_plant_X3_init rfl mX9_plant_10 mX9_plant_11 mX9_plant_12 rfl (by decide +kernel) ⟨Nat.le_of_ble_eq_true rfl, Nat.le_of_ble_eq_true rfl⟩ dX9_plant_70) (fun av M h => f2_X3_init_ok E h) (Or.inr (fun av M h => f2_X3_init_rc E h)),
    ok_fun (ok_callV C (kx_w2_rcv E) (ci := 0) (Cn := RJx4a65c) (T := TJx4a65c) (N := 3) rfl (n := 1) gX9_plant_Jx4a65c_add_9ea2d rfl (by decide +kernel) ⟨Nat.le_of_ble_eq_true rfl, Nat.le_of_ble_eq_true rfl⟩ dX9_plant_73) (fun av M h => f2_Jx4a65c_add_9ea2d_ok E h) (Or.inr (fun av M h => f2_Jx4a65c_add_9ea2d_rc E h)),
    ok_pop C dX9_plant_76,
    ok_aload_n C dX9_plant_77 rfl,
    ok_gR C (ci := 10) (k := 1) (Cn := RX9) (T := TX9) (N := 18) (index := 16) (ref := "Bloomclock") (kx_w2_good E) rfl rfl (by decide) hiX9_plant_10 mX9_plant_5 (fun _ h9 => h9) rfl dX9_plant_78,
    ok_fun (ok_callV C (kx_w2_rcv E) (ci := 0) (Cn := RJx4a65c) (T := TJx4a65c) (N := 3) rfl (n := 0) gX9_plant_Jx4a65c_size_8abf5 rfl (by decide +kernel) ⟨Nat.le_of_ble_eq_true rfl, Nat.le_of_ble_eq_true rfl⟩ dX9_plant_81) (fun av M h => f2_Jx4a65c_size_8abf5_ok E h) (Or.inr (fun av M h => f2_Jx4a65c_size_8abf5_rc E h)),
    ok_iconst C dX9_plant_84 (by decide),
    ok_isub C dX9_plant_85,
    ok_iret C hr hl dX9_plant_86, trivial⟩

theorem mX9_cut_0 : Cond.fieldLink RX9 116 "Bloomclock$Crop" "isReady" "Z" ∈ wsX9_cut := by decide +kernel
theorem hiX9_cut_4 : ∀ w ∈ u_ws RX3 TX3 7, w ∈ wsX9_cut := by decide +kernel
theorem mX9_cut_2 : Cond.fieldLink RX9 120 "Bloomclock$Crop" "plants" "I" ∈ wsX9_cut := by decide +kernel
theorem mX9_cut_3 : Cond.fieldLink RX9 19 "Bloomclock" "lots" "Ljava/util/ArrayList;" ∈ wsX9_cut := by decide +kernel
theorem hiX9_cut_10 : ∀ w ∈ u_ws RX9 TX9 18, w ∈ wsX9_cut := by decide +kernel
theorem mX9_cut_5 : Cond.static yX9_bucketsFor ∈ wsX9_cut := by decide +kernel
theorem mX9_cut_6 : Cond.methodLink RX9 123 yX9_bucketsFor ∈ wsX9_cut := by decide +kernel
theorem mX9_cut_7 : Cond.initialized RX9 ∈ wsX9_cut := by decide +kernel
theorem mX9_cut_8 : Cond.fieldLink RX9 57 "Bloomclock" "pool" "I" ∈ wsX9_cut := by decide +kernel
theorem hiX9_cut_6 : ∀ w ∈ u_ws RX5 TX5 12, w ∈ wsX9_cut := by decide +kernel
theorem mX9_cut_10 : Cond.classLink RX9 129 RX5 ∈ wsX9_cut := by decide +kernel
theorem mX9_cut_11 : Cond.instantiable RX5 12 ∈ wsX9_cut := by decide +kernel
theorem mX9_cut_12 : Cond.initialized RX5 ∈ wsX9_cut := by decide +kernel
theorem mX9_cut_13 : Cond.methodLink RX9 131 yX5_init ∈ wsX9_cut := by decide +kernel
theorem mX9_cut_14 : Cond.instanceMethod yX5_init ∈ wsX9_cut := by decide +kernel
theorem mX9_cut_15 : Cond.fieldLink RX9 134 "Bloomclock$Lot" "buckets" "I" ∈ wsX9_cut := by decide +kernel
theorem mX9_cut_16 : Cond.fieldLink RX9 137 "Bloomclock$Lot" "number" "I" ∈ wsX9_cut := by decide +kernel
abbrev c2t_X9_cut (E : kx_E) (av : List Value) (M : kx_M) (k ks : Nat) (Q : kx_Q) : Prop := kx_CT E (kx_w2 E) yX9_cut wsX9_cut 7 158 av M k ks Q
def cd_X9_cut (E : kx_E) : List (Nat × kx_T) := [
  (0, t_al 1 0),
  (1, t_il 2 1),
  (2, t_fun (f2_X9_cropAt E) 0 0 5 2),
  (5, t_as 6 3),
  (6, t_il 7 2),
  (7, t_push 8 (.int 1)),
  (8, t_ic 11 21 (fun x y => y ≤ x)),
  (11, t_no),
  (21, t_al 22 3),
  (22, t_gI 25 5 85),
  (25, t_if 28 59 (fun x => x = 0)),
  (28, t_il 29 2),
  (29, t_al 30 3),
  (30, t_gI 33 5 83),
  (33, t_ic 36 59 (fun x y => y < x)),
  (36, t_al 37 0),
  (37, t_gR 40 11 202),
  (40, t_fun (f2_Jx4a65c_size_8abf5 E) 0 0 43 1),
  (43, t_push 45 (.int 16)),
  (45, t_ic 48 59 (fun x y => y ≤ x)),
  (48, t_il 49 2),
  (49, t_fun (f2_X9_bucketsFor E) 0 0 52 1),
  (52, t_al 53 0),
  (53, t_gI 56 11 212),
  (56, t_ic 59 69 (fun x y => x ≤ y)),
  (59, t_no),
  (69, t_new 72 7 12),
  (72, t_dup 73),
  (73, t_al 74 0),
  (74, t_gR 77 11 202),
  (77, t_fun (f2_Jx4a65c_size_8abf5 E) 0 0 80 1),
  (80, t_al 81 3),
  (81, t_il 82 2),
  (82, t_il 83 2),
  (83, t_fun (f2_X9_bucketsFor E) 0 0 86 1),
  (86, t_fun (f2_X5_init E) 0 0 89 5),
  (89, t_as 91 4),
  (91, t_al 92 3),
  (92, t_dup 93),
  (93, t_gI 96 5 83),
  (96, t_il 97 2),
  (97, t_bin 98 (fun x y => x - y)),
  (98, t_pI 101 5 83),
  (101, t_al 102 0),
  (102, t_dup 103),
  (103, t_gI 106 11 212),
  (106, t_al 108 4),
  (108, t_gI 111 7 127),
  (111, t_bin 112 (fun x y => x - y)),
  (112, t_pI 115 11 212),
  (115, t_al 116 0),
  (116, t_gR 119 11 202),
  (119, t_al 121 4),
  (121, t_fun (f2_Jx4a65c_add_9ea2d E) 1 1500 124 2),
  (124, t_pop 125),
  (125, t_al 127 4),
  (127, t_gI 130 7 120),
  (130, t_iret)]
set_option maxRecDepth 4000 in
theorem en_X9_cut (E : kx_E) {av : List Value} {M : kx_M} {k ks : Nat} {Qr : kx_Q} (hlen : (lg_sl av).length ≤ 5) (h : ∀ G : kx_K, kx_all G Qr (cd_X9_cut E) → G k ks 0 (lv_args 0 av) [] M) : c2t_X9_cut E av M k ks Qr := by
  refine kx_enter (by decide) rfl hlen (own := RX9) rfl (cd := cd_X9_cut E) ?_ h
  intro p e s m below meth c C hr hl hnm
  exact ⟨ok_aload_n C dX9_cut_0 rfl,
    ok_iload_n C dX9_cut_1 rfl,
    ok_fun (ok_callV C (kx_w2_rcv E) (ci := 10) (Cn := RX9) (T := TX9) (N := 18) rfl (n := 1) gX9_cut_X9_cropAt rfl (by decide +kernel) ⟨Nat.le_of_ble_eq_true rfl, Nat.le_of_ble_eq_true rfl⟩ dX9_cut_2) (fun av M h => f2_X9_cropAt_ok E h) (Or.inr (fun av M h => f2_X9_cropAt_rc E h)),
    ok_astore_n C dX9_cut_5 rfl (by decide),
    ok_iload_n C dX9_cut_6 rfl,
    ok_iconst C dX9_cut_7 (by decide),
    ok_ic_ge C dX9_cut_8 (by decide),
    ok_no,
    ok_aload_n C dX9_cut_21 rfl,
    ok_gI C (ci := 4) (k := 5) (Cn := RX3) (T := TX3) (N := 7) (index := 116) (ref := "Bloomclock$Crop") (kx_w2_good E) rfl rfl (by decide) hiX9_cut_4 mX9_cut_0 (fun _ h9 => h9) rfl dX9_cut_22,
    ok_if_eq C dX9_cut_25 (by decide),
    ok_iload_n C dX9_cut_28 rfl,
    ok_aload_n C dX9_cut_29 rfl,
    ok_gI C (ci := 4) (k := 3) (Cn := RX3) (T := TX3) (N := 7) (index := 120) (ref := "Bloomclock$Crop") (kx_w2_good E) rfl rfl (by decide) hiX9_cut_4 mX9_cut_2 (fun _ h9 => h9) rfl dX9_cut_30,
    ok_ic_gt C dX9_cut_33 (by decide),
    ok_aload_n C dX9_cut_36 rfl,
    ok_gR C (ci := 10) (k := 2) (Cn := RX9) (T := TX9) (N := 18) (index := 19) (ref := "Bloomclock") (kx_w2_good E) rfl rfl (by decide) hiX9_cut_10 mX9_cut_3 (fun _ h9 => h9) rfl dX9_cut_37,
    ok_fun (ok_callV C (kx_w2_rcv E) (ci := 0) (Cn := RJx4a65c) (T := TJx4a65c) (N := 3) rfl (n := 0) gX9_cut_Jx4a65c_size_8abf5 rfl (by decide +kernel) ⟨Nat.le_of_ble_eq_true rfl, Nat.le_of_ble_eq_true rfl⟩ dX9_cut_40) (fun av M h => f2_Jx4a65c_size_8abf5_ok E h) (Or.inr (fun av M h => f2_Jx4a65c_size_8abf5_rc E h)),
    ok_bipush C dX9_cut_43 (by decide),
    ok_ic_ge C dX9_cut_45 (by decide),
    ok_iload_n C dX9_cut_48 rfl,
    ok_fun (ok_callT C (n := 1) ggX9_cut_X9_bucketsFor mX9_cut_5 mX9_cut_6 mX9_cut_7 rfl (by decide +kernel) ⟨Nat.le_of_ble_eq_true rfl, Nat.le_of_ble_eq_true rfl⟩ dX9_cut_49) (fun av M h => f2_X9_bucketsFor_ok E h) (Or.inl rfl),
    ok_aload_n C dX9_cut_52 rfl,
    ok_gI C (ci := 10) (k := 12) (Cn := RX9) (T := TX9) (N := 18) (index := 57) (ref := "Bloomclock") (kx_w2_good E) rfl rfl (by decide) hiX9_cut_10 mX9_cut_8 (fun _ h9 => h9) rfl dX9_cut_53,
    ok_ic_le C dX9_cut_56 (by decide),
    ok_no,
    ok_new C (ci := 6) (Cn := RX5) (T := TX5) (N := 12) (index := 129) (kx_w2_good E) rfl hiX9_cut_6 mX9_cut_10 mX9_cut_11 mX9_cut_12 tyX5 tyX5_ok (by decide +kernel) dX9_cut_69,
    ok_dup C dX9_cut_72,
    ok_aload_n C dX9_cut_73 rfl,
    ok_gR C (ci := 10) (k := 2) (Cn := RX9) (T := TX9) (N := 18) (index := 19) (ref := "Bloomclock") (kx_w2_good E) rfl rfl (by decide) hiX9_cut_10 mX9_cut_3 (fun _ h9 => h9) rfl dX9_cut_74,
    ok_fun (ok_callV C (kx_w2_rcv E) (ci := 0) (Cn := RJx4a65c) (T := TJx4a65c) (N := 3) rfl (n := 0) gX9_cut_Jx4a65c_size_8abf5 rfl (by decide +kernel) ⟨Nat.le_of_ble_eq_true rfl, Nat.le_of_ble_eq_true rfl⟩ dX9_cut_77) (fun av M h => f2_Jx4a65c_size_8abf5_ok E h) (Or.inr (fun av M h => f2_Jx4a65c_size_8abf5_rc E h)),
    ok_aload_n C dX9_cut_80 rfl,
    ok_iload_n C dX9_cut_81 rfl,
    ok_iload_n C dX9_cut_82 rfl,
    ok_fun (ok_callT C (n := 1) ggX9_cut_X9_bucketsFor mX9_cut_5 mX9_cut_6 mX9_cut_7 rfl (by decide +kernel) ⟨Nat.le_of_ble_eq_true rfl, Nat.le_of_ble_eq_true rfl⟩ dX9_cut_83) (fun av M h => f2_X9_bucketsFor_ok E h) (Or.inl rfl),
    ok_fun (ok_callI C (n := 4) (kv := 7) (by decide) gX9_cut_X5_init rfl mX9_cut_12 mX9_cut_13 mX9_cut_14 rfl (by decide +kernel) ⟨Nat.le_of_ble_eq_true rfl, Nat.le_of_ble_eq_true rfl⟩ dX9_cut_86) (fun av M h => f2_X5_init_ok E h) (Or.inr (fun av M h => f2_X5_init_rc E h)),
    ok_astore C dX9_cut_89 (by decide),
    ok_aload_n C dX9_cut_91 rfl,
    ok_dup C dX9_cut_92,
    ok_gI C (ci := 4) (k := 3) (Cn := RX3) (T := TX3) (N := 7) (index := 120) (ref := "Bloomclock$Crop") (kx_w2_good E) rfl rfl (by decide) hiX9_cut_4 mX9_cut_2 (fun _ h9 => h9) rfl dX9_cut_93,
    ok_iload_n C dX9_cut_96 rfl,
    ok_isub C dX9_cut_97,
    ok_pI C (ci := 4) (k := 3) (Cn := RX3) (T := TX3) (N := 7) (index := 120) (ref := "Bloomclock$Crop") (kx_w2_good E) rfl rfl (by decide) hiX9_cut_4 mX9_cut_2 (fun _ h9 => h9) tyX3 tyX3_ok nmX3 rfl (by decide +kernel) rfl dX9_cut_98,
    ok_aload_n C dX9_cut_101 rfl,
    ok_dup C dX9_cut_102,
    ok_gI C (ci := 10) (k := 12) (Cn := RX9) (T := TX9) (N := 18) (index := 57) (ref := "Bloomclock") (kx_w2_good E) rfl rfl (by decide) hiX9_cut_10 mX9_cut_8 (fun _ h9 => h9) rfl dX9_cut_103,
    ok_aload C dX9_cut_106,
    ok_gI C (ci := 6) (k := 7) (Cn := RX5) (T := TX5) (N := 12) (index := 134) (ref := "Bloomclock$Lot") (kx_w2_good E) rfl rfl (by decide) hiX9_cut_6 mX9_cut_15 (fun _ h9 => h9) rfl dX9_cut_108,
    ok_isub C dX9_cut_111,
    ok_pI C (ci := 10) (k := 12) (Cn := RX9) (T := TX9) (N := 18) (index := 57) (ref := "Bloomclock") (kx_w2_good E) rfl rfl (by decide) hiX9_cut_10 mX9_cut_8 (fun _ h9 => h9) tyX9 tyX9_ok nmX9 rfl (by decide +kernel) rfl dX9_cut_112,
    ok_aload_n C dX9_cut_115 rfl,
    ok_gR C (ci := 10) (k := 2) (Cn := RX9) (T := TX9) (N := 18) (index := 19) (ref := "Bloomclock") (kx_w2_good E) rfl rfl (by decide) hiX9_cut_10 mX9_cut_3 (fun _ h9 => h9) rfl dX9_cut_116,
    ok_aload C dX9_cut_119,
    ok_fun (ok_callV C (kx_w2_rcv E) (ci := 0) (Cn := RJx4a65c) (T := TJx4a65c) (N := 3) rfl (n := 1) gX9_cut_Jx4a65c_add_9ea2d rfl (by decide +kernel) ⟨Nat.le_of_ble_eq_true rfl, Nat.le_of_ble_eq_true rfl⟩ dX9_cut_121) (fun av M h => f2_Jx4a65c_add_9ea2d_ok E h) (Or.inr (fun av M h => f2_Jx4a65c_add_9ea2d_rc E h)),
    ok_pop C dX9_cut_124,
    ok_aload C dX9_cut_125,
    ok_gI C (ci := 6) (k := 0) (Cn := RX5) (T := TX5) (N := 12) (index := 137) (ref := "Bloomclock$Lot") (kx_w2_good E) rfl rfl (by decide) hiX9_cut_6 mX9_cut_16 (fun _ h9 => h9) rfl dX9_cut_127,
    ok_iret C hr hl dX9_cut_130, trivial⟩
