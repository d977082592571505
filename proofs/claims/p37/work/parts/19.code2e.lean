theorem mX9_growerAt_0 : Cond.fieldLink RX9 10 "Bloomclock" "growers" "Ljava/util/ArrayList;" ∈ wsX9_growerAt := by decide +kernel
theorem hiX9_growerAt_10 : ∀ w ∈ u_ws RX9 TX9 18, w ∈ wsX9_growerAt := by decide +kernel
theorem mX9_growerAt_2 : Cond.classLink RX9 74 RX4 ∈ wsX9_growerAt := by decide +kernel
abbrev c2t_X9_growerAt (E : kx_E) (av : List Value) (M : kx_M) (k ks : Nat) (Q : kx_Q) : Prop := kx_CT E (kx_w2 E) yX9_growerAt wsX9_growerAt 3 64 av M k ks Q
def cd_X9_growerAt (E : kx_E) : List (Nat × kx_T) := [
  (0, t_il 1 1),
  (1, t_if 4 15 (fun x => x < 0)),
  (4, t_il 5 1),
  (5, t_al 6 0),
  (6, t_gR 9 11 200),
  (9, t_fun (f2_Jx4a65c_size_8abf5 E) 0 0 12 1),
  (12, t_ic 15 26 (fun x y => x < y)),
  (15, t_no),
  (26, t_al 27 0),
  (27, t_gR 30 11 200),
  (30, t_il 31 1),
  (31, t_fun (f2_Jx4a65c_get_915e3 E) 0 0 34 2),
  (34, t_cst 37 6),
  (37, t_aret)]
set_option maxRecDepth 4000 in
theorem en_X9_growerAt (E : kx_E) {av : List Value} {M : kx_M} {k ks : Nat} {Qr : kx_Q} (hlen : (lg_sl av).length ≤ 2) (h : ∀ G : kx_K, kx_all G Qr (cd_X9_growerAt E) → G k ks 0 (lv_args 0 av) [] M) : c2t_X9_growerAt E av M k ks Qr := by
  refine kx_enter (by decide) rfl hlen (own := RX9) rfl (cd := cd_X9_growerAt E) ?_ h
  intro p e s m below meth c C hr hl hnm
  exact ⟨ok_iload_n C dX9_growerAt_0 rfl,
    ok_if_lt C dX9_growerAt_1 (by decide),
    ok_iload_n C dX9_growerAt_4 rfl,
    ok_aload_n C dX9_growerAt_5 rfl,
    ok_gR C (ci := 10) (k := 0) (Cn := RX9) (T := TX9) (N := 18) (index := 10) (ref := "Bloomclock") (kx_w2_good E) rfl rfl (by decide) hiX9_growerAt_10 mX9_growerAt_0 (fun _ h9 => h9) rfl dX9_growerAt_6,
    ok_fun (ok_callV C (kx_w2_rcv E) (ci := 0) (Cn := RJx4a65c) (T := TJx4a65c) (N := 3) rfl (n := 0) gX9_growerAt_Jx4a65c_size_8abf5 rfl (by decide +kernel) ⟨Nat.le_of_ble_eq_true rfl, Nat.le_of_ble_eq_true rfl⟩ dX9_growerAt_9) (fun av M h => f2_Jx4a65c_size_8abf5_ok E h) (Or.inr (fun av M h => f2_Jx4a65c_size_8abf5_rc E h)),
    ok_ic_lt C dX9_growerAt_12 (by decide),
    ok_no,
    ok_aload_n C dX9_growerAt_26 rfl,
    ok_gR C (ci := 10) (k := 0) (Cn := RX9) (T := TX9) (N := 18) (index := 10) (ref := "Bloomclock") (kx_w2_good E) rfl rfl (by decide) hiX9_growerAt_10 mX9_growerAt_0 (fun _ h9 => h9) rfl dX9_growerAt_27,
    ok_iload_n C dX9_growerAt_30 rfl,
    ok_fun (ok_callV C (kx_w2_rcv E) (ci := 0) (Cn := RJx4a65c) (T := TJx4a65c) (N := 3) rfl (n := 1) gX9_growerAt_Jx4a65c_get_915e3 rfl (by decide +kernel) ⟨Nat.le_of_ble_eq_true rfl, Nat.le_of_ble_eq_true rfl⟩ dX9_growerAt_31) (fun av M h => f2_Jx4a65c_get_915e3_ok E h) (Or.inr (fun av M h => f2_Jx4a65c_get_915e3_rc E h)),
    ok_cst C (ci := 5) (Cn := RX4) (T := TX4) (N := 5) (kx_w2_good E) rfl rfl mX9_growerAt_2 dX9_growerAt_34,
    ok_aret C hr (Or.inl ⟨_, rfl⟩) hl dX9_growerAt_37, trivial⟩

theorem mX9_cropAt_0 : Cond.fieldLink RX9 16 "Bloomclock" "crops" "Ljava/util/ArrayList;" ∈ wsX9_cropAt := by decide +kernel
theorem hiX9_cropAt_10 : ∀ w ∈ u_ws RX9 TX9 18, w ∈ wsX9_cropAt := by decide +kernel
theorem mX9_cropAt_2 : Cond.classLink RX9 105 RX3 ∈ wsX9_cropAt := by decide +kernel
abbrev c2t_X9_cropAt (E : kx_E) (av : List Value) (M : kx_M) (k ks : Nat) (Q : kx_Q) : Prop := kx_CT E (kx_w2 E) yX9_cropAt wsX9_cropAt 3 64 av M k ks Q
def cd_X9_cropAt (E : kx_E) : List (Nat × kx_T) := [
  (0, t_il 1 1),
  (1, t_if 4 15 (fun x => x < 0)),
  (4, t_il 5 1),
  (5, t_al 6 0),
  (6, t_gR 9 11 201),
  (9, t_fun (f2_Jx4a65c_size_8abf5 E) 0 0 12 1),
  (12, t_ic 15 26 (fun x y => x < y)),
  (15, t_no),
  (26, t_al 27 0),
  (27, t_gR 30 11 201),
  (30, t_il 31 1),
  (31, t_fun (f2_Jx4a65c_get_915e3 E) 0 0 34 2),
  (34, t_cst 37 5),
  (37, t_aret)]
set_option maxRecDepth 4000 in
theorem en_X9_cropAt (E : kx_E) {av : List Value} {M : kx_M} {k ks : Nat} {Qr : kx_Q} (hlen : (lg_sl av).length ≤ 2) (h : ∀ G : kx_K, kx_all G Qr (cd_X9_cropAt E) → G k ks 0 (lv_args 0 av) [] M) : c2t_X9_cropAt E av M k ks Qr := by
  refine kx_enter (by decide) rfl hlen (own := RX9) rfl (cd := cd_X9_cropAt E) ?_ h
  intro p e s m below meth c C hr hl hnm
  exact ⟨ok_iload_n C dX9_cropAt_0 rfl,
    ok_if_lt C dX9_cropAt_1 (by decide),
    ok_iload_n C dX9_cropAt_4 rfl,
    ok_aload_n C dX9_cropAt_5 rfl,
    ok_gR C (ci := 10) (k := 1) (Cn := RX9) (T := TX9) (N := 18) (index := 16) (ref := "Bloomclock") (kx_w2_good E) rfl rfl (by decide) hiX9_cropAt_10 mX9_cropAt_0 (fun _ h9 => h9) rfl dX9_cropAt_6,
    ok_fun (ok_callV C (kx_w2_rcv E) (ci := 0) (Cn := RJx4a65c) (T := TJx4a65c) (N := 3) rfl (n := 0) gX9_cropAt_Jx4a65c_size_8abf5 rfl (by decide +kernel) ⟨Nat.le_of_ble_eq_true rfl, Nat.le_of_ble_eq_true rfl⟩ dX9_cropAt_9) (fun av M h => f2_Jx4a65c_size_8abf5_ok E h) (Or.inr (fun av M h => f2_Jx4a65c_size_8abf5_rc E h)),
    ok_ic_lt C dX9_cropAt_12 (by decide),
    ok_no,
    ok_aload_n C dX9_cropAt_26 rfl,
    ok_gR C (ci := 10) (k := 1) (Cn := RX9) (T := TX9) (N := 18) (index := 16) (ref := "Bloomclock") (kx_w2_good E) rfl rfl (by decide) hiX9_cropAt_10 mX9_cropAt_0 (fun _ h9 => h9) rfl dX9_cropAt_27,
    ok_iload_n C dX9_cropAt_30 rfl,
    ok_fun (ok_callV C (kx_w2_rcv E) (ci := 0) (Cn := RJx4a65c) (T := TJx4a65c) (N := 3) rfl (n := 1) gX9_cropAt_Jx4a65c_get_915e3 rfl (by decide +kernel) ⟨Nat.le_of_ble_eq_true rfl, Nat.le_of_ble_eq_true rfl⟩ dX9_cropAt_31) (fun av M h => f2_Jx4a65c_get_915e3_ok E h) (Or.inr (fun av M h => f2_Jx4a65c_get_915e3_rc E h)),
    ok_cst C (ci := 4) (Cn := RX3) (T := TX3) (N := 7) (kx_w2_good E) rfl rfl mX9_cropAt_2 dX9_cropAt_34,
    ok_aret C hr (Or.inl ⟨_, rfl⟩) hl dX9_cropAt_37, trivial⟩

theorem mX9_lotAt_0 : Cond.fieldLink RX9 19 "Bloomclock" "lots" "Ljava/util/ArrayList;" ∈ wsX9_lotAt := by decide +kernel
theorem hiX9_lotAt_10 : ∀ w ∈ u_ws RX9 TX9 18, w ∈ wsX9_lotAt := by decide +kernel
theorem mX9_lotAt_2 : Cond.classLink RX9 129 RX5 ∈ wsX9_lotAt := by decide +kernel
abbrev c2t_X9_lotAt (E : kx_E) (av : List Value) (M : kx_M) (k ks : Nat) (Q : kx_Q) : Prop := kx_CT E (kx_w2 E) yX9_lotAt wsX9_lotAt 3 64 av M k ks Q
def cd_X9_lotAt (E : kx_E) : List (Nat × kx_T) := [
  (0, t_il 1 1),
  (1, t_if 4 15 (fun x => x < 0)),
  (4, t_il 5 1),
  (5, t_al 6 0),
  (6, t_gR 9 11 202),
  (9, t_fun (f2_Jx4a65c_size_8abf5 E) 0 0 12 1),
  (12, t_ic 15 26 (fun x y => x < y)),
  (15, t_no),
  (26, t_al 27 0),
  (27, t_gR 30 11 202),
  (30, t_il 31 1),
  (31, t_fun (f2_Jx4a65c_get_915e3 E) 0 0 34 2),
  (34, t_cst 37 7),
  (37, t_aret)]
set_option maxRecDepth 4000 in
theorem en_X9_lotAt (E : kx_E) {av : List Value} {M : kx_M} {k ks : Nat} {Qr : kx_Q} (hlen : (lg_sl av).length ≤ 2) (h : ∀ G : kx_K, kx_all G Qr (cd_X9_lotAt E) → G k ks 0 (lv_args 0 av) [] M) : c2t_X9_lotAt E av M k ks Qr := by
  refine kx_enter (by decide) rfl hlen (own := RX9) rfl (cd := cd_X9_lotAt E) ?_ h
  intro p e s m below meth c C hr hl hnm
  exact ⟨ok_iload_n C dX9_lotAt_0 rfl,
    ok_if_lt C dX9_lotAt_1 (by decide),
    ok_iload_n C dX9_lotAt_4 rfl,
    ok_aload_n C dX9_lotAt_5 rfl,
    ok_gR C (ci := 10) (k := 2) (Cn := RX9) (T := TX9) (N := 18) (index := 19) (ref := "Bloomclock") (kx_w2_good E) rfl rfl (by decide) hiX9_lotAt_10 mX9_lotAt_0 (fun _ h9 => h9) rfl dX9_lotAt_6,
    ok_fun (ok_callV C (kx_w2_rcv E) (ci := 0) (Cn := RJx4a65c) (T := TJx4a65c) (N := 3) rfl (n := 0) gX9_lotAt_Jx4a65c_size_8abf5 rfl (by decide +kernel) ⟨Nat.le_of_ble_eq_true rfl, Nat.le_of_ble_eq_true rfl⟩ dX9_lotAt_9) (fun av M h => f2_Jx4a65c_size_8abf5_ok E h) (Or.inr (fun av M h => f2_Jx4a65c_size_8abf5_rc E h)),
    ok_ic_lt C dX9_lotAt_12 (by decide),
    ok_no,
    ok_aload_n C dX9_lotAt_26 rfl,
    ok_gR C (ci := 10) (k := 2) (Cn := RX9) (T := TX9) (N := 18) (index := 19) (ref := "Bloomclock") (kx_w2_good E) rfl rfl (by decide) hiX9_lotAt_10 mX9_lotAt_0 (fun _ h9 => h9) rfl dX9_lotAt_27,
    ok_iload_n C dX9_lotAt_30 rfl,
    ok_fun (ok_callV C (kx_w2_rcv E) (ci := 0) (Cn := RJx4a65c) (T := TJx4a65c) (N := 3) rfl (n := 1) gX9_lotAt_Jx4a65c_get_915e3 rfl (by decide +kernel) ⟨Nat.le_of_ble_eq_true rfl, Nat.le_of_ble_eq_true rfl⟩ dX9_lotAt_31) (fun av M h => f2_Jx4a65c_get_915e3_ok E h) (Or.inr (fun av M h => f2_Jx4a65c_get_915e3_rc E h)),
    ok_cst C (ci := 6) (Cn := RX5) (T := TX5) (N := 12) (kx_w2_good E) rfl rfl mX9_lotAt_2 dX9_lotAt_34,
    ok_aret C hr (Or.inl ⟨_, rfl⟩) hl dX9_lotAt_37, trivial⟩

theorem mX9_buyerAt_0 : Cond.fieldLink RX9 25 "Bloomclock" "buyers" "Ljava/util/ArrayList;" ∈ wsX9_buyerAt := by decide +kernel
theorem hiX9_buyerAt_10 : ∀ w ∈ u_ws RX9 TX9 18, w ∈ wsX9_buyerAt := by decide +kernel
theorem mX9_buyerAt_2 : Cond.classLink RX9 210 RX0 ∈ wsX9_buyerAt := by decide +kernel
abbrev c2t_X9_buyerAt (E : kx_E) (av : List Value) (M : kx_M) (k ks : Nat) (Q : kx_Q) : Prop := kx_CT E (kx_w2 E) yX9_buyerAt wsX9_buyerAt 3 64 av M k ks Q
def cd_X9_buyerAt (E : kx_E) : List (Nat × kx_T) := [
  (0, t_il 1 1),
  (1, t_if 4 15 (fun x => x < 0)),
  (4, t_il 5 1),
  (5, t_al 6 0),
  (6, t_gR 9 11 204),
  (9, t_fun (f2_Jx4a65c_size_8abf5 E) 0 0 12 1),
  (12, t_ic 15 26 (fun x y => x < y)),
  (15, t_no),
  (26, t_al 27 0),
  (27, t_gR 30 11 204),
  (30, t_il 31 1),
  (31, t_fun (f2_Jx4a65c_get_915e3 E) 0 0 34 2),
  (34, t_cst 37 2),
  (37, t_aret)]
set_option maxRecDepth 4000 in
theorem en_X9_buyerAt (E : kx_E) {av : List Value} {M : kx_M} {k ks : Nat} {Qr : kx_Q} (hlen : (lg_sl av).length ≤ 2) (h : ∀ G : kx_K, kx_all G Qr (cd_X9_buyerAt E) → G k ks 0 (lv_args 0 av) [] M) : c2t_X9_buyerAt E av M k ks Qr := by
  refine kx_enter (by decide) rfl hlen (own := RX9) rfl (cd := cd_X9_buyerAt E) ?_ h
  intro p e s m below meth c C hr hl hnm
  exact ⟨ok_iload_n C dX9_buyerAt_0 rfl,
    ok_if_lt C dX9_buyerAt_1 (by decide),
    ok_iload_n C dX9_buyerAt_4 rfl,
    ok_aload_n C dX9_buyerAt_5 rfl,
    ok_gR C (ci := 10) (k := 4) (Cn := RX9) (T := TX9) (N := 18) (index := 25) (ref := "Bloomclock") (kx_w2_good E) rfl rfl (by decide) hiX9_buyerAt_10 mX9_buyerAt_0 (fun _ h9 => h9) rfl dX9_buyerAt_6,
    ok_fun (ok_callV C (kx_w2_rcv E) (ci := 0) (Cn := RJx4a65c) (T := TJx4a65c) (N := 3) rfl (n := 0) gX9_buyerAt_Jx4a65c_size_8abf5 rfl (by decide +kernel) ⟨Nat.le_of_ble_eq_true rfl, Nat.le_of_ble_eq_true rfl⟩ dX9_buyerAt_9) (fun av M h => f2_Jx4a65c_size_8abf5_ok E h) (Or.inr (fun av M h => f2_Jx4a65c_size_8abf5_rc E h)),
    ok_ic_lt C dX9_buyerAt_12 (by decide),
    ok_no,
    ok_aload_n C dX9_buyerAt_26 rfl,
    ok_gR C (ci := 10) (k := 4) (Cn := RX9) (T := TX9) (N := 18) (index := 25) (ref := "Bloomclock") (kx_w2_good E) rfl rfl (by decide) hiX9_buyerAt_10 mX9_buyerAt_0 (fun _ h9 => h9) rfl dX9_buyerAt_27,
    ok_iload_n C dX9_buyerAt_30 rfl,
    ok_fun (ok_callV C (kx_w2_rcv E) (ci := 0) (Cn := RJx4a65c) (T := TJx4a65c) (N := 3) rfl (n := 1) gX9_buyerAt_Jx4a65c_get_915e3 rfl (by decide +kernel) ⟨Nat.le_of_ble_eq_true rfl, Nat.le_of_ble_eq_true rfl⟩ dX9_buyerAt_31) (fun av M h => f2_Jx4a65c_get_915e3_ok E h) (Or.inr (fun av M h => f2_Jx4a65c_get_915e3_rc E h)),
    ok_cst C (ci := 1) (Cn := RX0) (T := TX0) (N := 11) (kx_w2_good E) rfl rfl mX9_buyerAt_2 dX9_buyerAt_34,
    ok_aret C hr (Or.inl ⟨_, rfl⟩) hl dX9_buyerAt_37, trivial⟩

theorem mX9_lotInRow_0 : Cond.fieldLink RX9 22 "Bloomclock" "row" "Ljava/util/ArrayList;" ∈ wsX9_lotInRow := by decide +kernel
theorem hiX9_lotInRow_10 : ∀ w ∈ u_ws RX9 TX9 18, w ∈ wsX9_lotInRow := by decide +kernel
theorem mX9_lotInRow_2 : Cond.classLink RX9 129 RX5 ∈ wsX9_lotInRow := by decide +kernel
theorem mX9_lotInRow_3 : Cond.fieldLink RX9 137 "Bloomclock$Lot" "number" "I" ∈ wsX9_lotInRow := by decide +kernel
theorem hiX9_lotInRow_6 : ∀ w ∈ u_ws RX5 TX5 12, w ∈ wsX9_lotInRow := by decide +kernel
abbrev c2t_X9_lotInRow (E : kx_E) (av : List Value) (M : kx_M) (k ks : Nat) (Q : kx_Q) : Prop := kx_CT E (kx_w2 E) yX9_lotInRow wsX9_lotInRow 3 64 av M k ks Q
def cd_X9_lotInRow (E : kx_E) : List (Nat × kx_T) := [
  (0, t_il 1 1),
  (1, t_if 4 15 (fun x => x < 0)),
  (4, t_il 5 1),
  (5, t_al 6 0),
  (6, t_gR 9 11 203),
  (9, t_fun (f2_Jx4a65c_size_8abf5 E) 0 0 12 1),
  (12, t_ic 15 17 (fun x y => x < y)),
  (15, t_push 16 (.int (-1))),
  (16, t_iret),
  (17, t_al 18 0),
  (18, t_gR 21 11 203),
  (21, t_il 22 1),
  (22, t_fun (f2_Jx4a65c_get_915e3 E) 0 0 25 2),
  (25, t_cst 28 7),
  (28, t_gI 31 7 120),
  (31, t_iret)]
set_option maxRecDepth 4000 in
theorem en_X9_lotInRow (E : kx_E) {av : List Value} {M : kx_M} {k ks : Nat} {Qr : kx_Q} (hlen : (lg_sl av).length ≤ 2) (h : ∀ G : kx_K, kx_all G Qr (cd_X9_lotInRow E) → G k ks 0 (lv_args 0 av) [] M) : c2t_X9_lotInRow E av M k ks Qr := by
  refine kx_enter (by decide) rfl hlen (own := RX9) rfl (cd := cd_X9_lotInRow E) ?_ h
  intro p e s m below meth c C hr hl hnm
  exact ⟨ok_iload_n C dX9_lotInRow_0 rfl,
    ok_if_lt C dX9_lotInRow_1 (by decide),
    ok_iload_n C dX9_lotInRow_4 rfl,
    ok_aload_n C dX9_lotInRow_5 rfl,
    ok_gR C (ci := 10) (k := 3) (Cn := RX9) (T := TX9) (N := 18) (index := 22) (ref := "Bloomclock") (kx_w2_good E) rfl rfl (by decide) hiX9_lotInRow_10 mX9_lotInRow_0 (fun _ h9 => h9) rfl dX9_lotInRow_6,
    ok_fun (ok_callV C (kx_w2_rcv E) (ci := 0) (Cn := RJx4a65c) (T := TJx4a65c) (N := 3) rfl (n := 0) gX9_lotInRow_Jx4a65c_size_8abf5 rfl (by decide +kernel) ⟨Nat.le_of_ble_eq_true rfl, Nat.le_of_ble_eq_true rfl⟩ dX9_lotInRow_9) (fun av M h => f2_Jx4a65c_size_8abf5_ok E h) (Or.inr (fun av M h => f2_Jx4a65c_size_8abf5_rc E h)),
    ok_ic_lt C dX9_lotInRow_12 (by decide),
    ok_iconst C dX9_lotInRow_15 (by decide),
    ok_iret C hr hl dX9_lotInRow_16,
    ok_aload_n C dX9_lotInRow_17 rfl,
    ok_gR C (ci := 10) (k := 3) (Cn := RX9) (T := TX9) (N := 18) (index := 22) (ref := "Bloomclock") (kx_w2_good E) rfl rfl (by decide) hiX9_lotInRow_10 mX9_lotInRow_0 (fun _ h9 => h9) rfl dX9_lotInRow_18,
    ok_iload_n C dX9_lotInRow_21 rfl,
    ok_fun (ok_callV C (kx_w2_rcv E) (ci := 0) (Cn := RJx4a65c) (T := TJx4a65c) (N := 3) rfl (n := 1) gX9_lotInRow_Jx4a65c_get_915e3 rfl (by decide +kernel) ⟨Nat.le_of_ble_eq_true rfl, Nat.le_of_ble_eq_true rfl⟩ dX9_lotInRow_22) (fun av M h => f2_Jx4a65c_get_915e3_ok E h) (Or.inr (fun av M h => f2_Jx4a65c_get_915e3_rc E h)),
    ok_cst C (ci := 6) (Cn := RX5) (T := TX5) (N := 12) (kx_w2_good E) rfl rfl mX9_lotInRow_2 dX9_lotInRow_25,
    ok_gI C (ci := 6) (k := 0) (Cn := RX5) (T := TX5) (N := 12) (index := 137) (ref := "Bloomclock$Lot") (kx_w2_good E) rfl rfl (by decide) hiX9_lotInRow_6 mX9_lotInRow_3 (fun _ h9 => h9) rfl dX9_lotInRow_28,
    ok_iret C hr hl dX9_lotInRow_31, trivial⟩

theorem mX9_hoursUntilReady_0 : Cond.fieldLink RX9 116 "Bloomclock$Crop" "isReady" "Z" ∈ wsX9_hoursUntilReady := by decide +kernel
theorem hiX9_hoursUntilReady_4 : ∀ w ∈ u_ws RX3 TX3 7, w ∈ wsX9_hoursUntilReady := by decide +kernel
theorem mX9_hoursUntilReady_2 : Cond.fieldLink RX9 53 "Bloomclock" "light" "I" ∈ wsX9_hoursUntilReady := by decide +kernel
theorem hiX9_hoursUntilReady_10 : ∀ w ∈ u_ws RX9 TX9 18, w ∈ wsX9_hoursUntilReady := by decide +kernel
theorem mX9_hoursUntilReady_4 : Cond.fieldLink RX9 432 "Bloomclock$Crop" "grower" "LBloomclock$Grower;" ∈ wsX9_hoursUntilReady := by decide +kernel
theorem mX9_hoursUntilReady_5 : Cond.fieldLink RX9 94 "Bloomclock$Grower" "lamps" "I" ∈ wsX9_hoursUntilReady := by decide +kernel
theorem hiX9_hoursUntilReady_5 : ∀ w ∈ u_ws RX4 TX4 5, w ∈ wsX9_hoursUntilReady := by decide +kernel
theorem mX9_hoursUntilReady_7 : Cond.fieldLink RX9 471 "Bloomclock$Crop" "cultivar" "I" ∈ wsX9_hoursUntilReady := by decide +kernel
theorem mX9_hoursUntilReady_8 : Cond.static yX9_sumAsked ∈ wsX9_hoursUntilReady := by decide +kernel
theorem mX9_hoursUntilReady_9 : Cond.methodLink RX9 472 yX9_sumAsked ∈ wsX9_hoursUntilReady := by decide +kernel
theorem mX9_hoursUntilReady_10 : Cond.initialized RX9 ∈ wsX9_hoursUntilReady := by decide +kernel
theorem mX9_hoursUntilReady_11 : Cond.fieldLink RX9 475 "Bloomclock$Crop" "sum" "I" ∈ wsX9_hoursUntilReady := by decide +kernel
abbrev c2t_X9_hoursUntilReady (E : kx_E) (av : List Value) (M : kx_M) (k ks : Nat) (Q : kx_Q) : Prop := kx_CT E (kx_w2 E) yX9_hoursUntilReady wsX9_hoursUntilReady 1 20 av M k ks Q
def cd_X9_hoursUntilReady (E : kx_E) : List (Nat × kx_T) := [
  (0, t_al 1 1),
  (1, t_gI 4 5 85),
  (4, t_if 7 9 (fun x => x = 0)),
  (7, t_push 8 (.int 0)),
  (8, t_iret),
  (9, t_al 10 0),
  (10, t_gI 13 11 211),
  (13, t_al 14 1),
  (14, t_gR 17 5 80),
  (17, t_gI 20 6 102),
  (20, t_bin 21 (fun x y => x + y)),
  (21, t_is 22 2),
  (22, t_il 23 2),
  (23, t_push 24 (.int 1)),
  (24, t_ic 27 29 (fun x y => y ≤ x)),
  (27, t_push 28 (.int (-1))),
  (28, t_iret),
  (29, t_al 30 1),
  (30, t_gI 33 5 82),
  (33, t_fun (f2_X9_sumAsked E) 0 0 36 1),
  (36, t_al 37 1),
  (37, t_gI 40 5 84),
  (40, t_bin 41 (fun x y => x - y)),
  (41, t_il 42 2),
  (42, t_bin 43 (fun x y => x + y)),
  (43, t_push 44 (.int 1)),
  (44, t_bin 45 (fun x y => x - y)),
  (45, t_il 46 2),
  (46, t_dv 47 (fun x y => x / y)),
  (47, t_iret)]
set_option maxRecDepth 4000 in
theorem en_X9_hoursUntilReady (E : kx_E) {av : List Value} {M : kx_M} {k ks : Nat} {Qr : kx_Q} (hlen : (lg_sl av).length ≤ 3) (h : ∀ G : kx_K, kx_all G Qr (cd_X9_hoursUntilReady E) → G k ks 0 (lv_args 0 av) [] M) : c2t_X9_hoursUntilReady E av M k ks Qr := by
  refine kx_enter (by decide) rfl hlen (own := RX9) rfl (cd := cd_X9_hoursUntilReady E) ?_ h
  intro p e s m below meth c C hr hl hnm
  exact ⟨ok_aload_n C dX9_hoursUntilReady_0 rfl,
    ok_gI C (ci := 4) (k := 5) (Cn := RX3) (T := TX3) (N := 7) (index := 116) (ref := "Bloomclock$Crop") (kx_w2_good E) rfl rfl (by decide) hiX9_hoursUntilReady_4 mX9_hoursUntilReady_0 (fun _ h9 => h9) rfl dX9_hoursUntilReady_1,
    ok_if_eq C dX9_hoursUntilReady_4 (by decide),
    ok_iconst C dX9_hoursUntilReady_7 (by decide),
    ok_iret C hr hl dX9_hoursUntilReady_8,
    ok_aload_n C dX9_hoursUntilReady_9 rfl,
    ok_gI C (ci := 10) (k := 11) (Cn := RX9) (T := TX9) (N := 18) (index := 53) (ref := "Bloomclock") (kx_w2_good E) rfl rfl (by decide) hiX9_hoursUntilReady_10 mX9_hoursUntilReady_2 (fun _ h9 => h9) rfl dX9_hoursUntilReady_10,
    ok_aload_n C dX9_hoursUntilReady_13 rfl,
    ok_gR C (ci := 4) (k := 0) (Cn := RX3) (T := TX3) (N := 7) (index := 432) (ref := "Bloomclock$Crop") (kx_w2_good E) rfl rfl (by decide) hiX9_hoursUntilReady_4 mX9_hoursUntilReady_4 (fun _ h9 => h9) rfl dX9_hoursUntilReady_14,
    ok_gI C (ci := 5) (k := 2) (Cn := RX4) (T := TX4) (N := 5) (index := 94) (ref := "Bloomclock$Grower") (kx_w2_good E) rfl rfl (by decide) hiX9_hoursUntilReady_5 mX9_hoursUntilReady_5 (fun _ h9 => h9) rfl dX9_hoursUntilReady_17,
    ok_iadd C dX9_hoursUntilReady_20,
    ok_istore_n C dX9_hoursUntilReady_21 rfl (by decide),
    ok_iload_n C dX9_hoursUntilReady_22 rfl,
    ok_iconst C dX9_hoursUntilReady_23 (by decide),
    ok_ic_ge C dX9_hoursUntilReady_24 (by decide),
    ok_iconst C dX9_hoursUntilReady_27 (by decide),
    ok_iret C hr hl dX9_hoursUntilReady_28,
    ok_aload_n C dX9_hoursUntilReady_29 rfl,
    ok_gI C (ci := 4) (k := 2) (Cn := RX3) (T := TX3) (N := 7) (index := 471) (ref := "Bloomclock$Crop") (kx_w2_good E) rfl rfl (by decide) hiX9_hoursUntilReady_4 mX9_hoursUntilReady_7 (fun _ h9 => h9) rfl dX9_hoursUntilReady_30,
    ok_fun (ok_callT C (n := 1) ggX9_hoursUntilReady_X9_sumAsked mX9_hoursUntilReady_8 mX9_hoursUntilReady_9 mX9_hoursUntilReady_10 rfl (by decide +kernel) ⟨Nat.le_of_ble_eq_true rfl, Nat.le_of_ble_eq_true rfl⟩ dX9_hoursUntilReady_33) (fun av M h => f2_X9_sumAsked_ok E h) (Or.inl rfl),
    ok_aload_n C dX9_hoursUntilReady_36 rfl,
    ok_gI C (ci := 4) (k := 4) (Cn := RX3) (T := TX3) (N := 7) (index := 475) (ref := "Bloomclock$Crop") (kx_w2_good E) rfl rfl (by decide) hiX9_hoursUntilReady_4 mX9_hoursUntilReady_11 (fun _ h9 => h9) rfl dX9_hoursUntilReady_37,
    ok_isub C dX9_hoursUntilReady_40,
    ok_iload_n C dX9_hoursUntilReady_41 rfl,
    ok_iadd C dX9_hoursUntilReady_42,
    ok_iconst C dX9_hoursUntilReady_43 (by decide),
    ok_isub C dX9_hoursUntilReady_44,
    ok_iload_n C dX9_hoursUntilReady_45 rfl,
    ok_idiv C dX9_hoursUntilReady_46,
    ok_iret C hr hl dX9_hoursUntilReady_47, trivial⟩
