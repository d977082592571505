theorem mX9_ofCrop_0 : Cond.static yX9_isWithin ∈ wsX9_ofCrop := by decide +kernel
theorem mX9_ofCrop_1 : Cond.methodLink RX9 85 yX9_isWithin ∈ wsX9_ofCrop := by decide +kernel
theorem mX9_ofCrop_2 : Cond.initialized RX9 ∈ wsX9_ofCrop := by decide +kernel
abbrev c2t_X9_ofCrop (E : kx_E) (av : List Value) (M : kx_M) (k ks : Nat) (Q : kx_Q) : Prop := kx_CT E (kx_w2 E) yX9_ofCrop wsX9_ofCrop 4 85 av M k ks Q
def cd_X9_ofCrop (E : kx_E) : List (Nat × kx_T) := [
  (0, t_al 1 0),
  (1, t_il 2 1),
  (2, t_fun (f2_X9_cropAt E) 0 0 5 2),
  (5, t_as 6 3),
  (6, t_il 7 2),
  (7, t_push 8 (.int 0)),
  (8, t_push 9 (.int 5)),
  (9, t_fun (f2_X9_isWithin E) 0 0 12 3),
  (12, t_if 15 26 (fun x => x ≠ 0)),
  (15, t_no),
  (26, t_al 27 3),
  (27, t_il 28 2),
  (28, t_fun (f2_X3_numberOf E) 0 0 31 2),
  (31, t_iret)]
set_option maxRecDepth 4000 in
theorem en_X9_ofCrop (E : kx_E) {av : List Value} {M : kx_M} {k ks : Nat} {Qr : kx_Q} (hlen : (lg_sl av).length ≤ 4) (h : ∀ G : kx_K, kx_all G Qr (cd_X9_ofCrop E) → G k ks 0 (lv_args 0 av) [] M) : c2t_X9_ofCrop E av M k ks Qr := by
  refine kx_enter (by decide) rfl hlen (own := RX9) rfl (cd := cd_X9_ofCrop E) ?_ h
  intro p e s m below meth c C hr hl hnm
  exact ⟨ok_aload_n C dX9_ofCrop_0 rfl,
    ok_iload_n C dX9_ofCrop_1 rfl,
    ok_fun (ok_callV C (kx_w2_rcv E) (ci := 10) (Cn := RX9) (T := TX9) (N := 18) rfl (n := 1) gX9_ofCrop_X9_cropAt rfl (by decide +kernel) ⟨Nat.le_of_ble_eq_true rfl, Nat.le_of_ble_eq_true rfl⟩ dX9_ofCrop_2) (fun av M h => f2_X9_cropAt_ok E h) (Or.inr (fun av M h => f2_X9_cropAt_rc E h)),
    ok_astore_n C dX9_ofCrop_5 rfl (by decide),
    ok_iload_n C dX9_ofCrop_6 rfl,
    ok_iconst C dX9_ofCrop_7 (by decide),
    ok_iconst C dX9_ofCrop_8 (by decide),
    ok_fun (ok_callT C (n := 3) ggX9_ofCrop_X9_isWithin mX9_ofCrop_0 mX9_ofCrop_1 mX9_ofCrop_2 rfl (by decide +kernel) ⟨Nat.le_of_ble_eq_true rfl, Nat.le_of_ble_eq_true rfl⟩ dX9_ofCrop_9) (fun av M h => f2_X9_isWithin_ok E h) (Or.inl rfl),
    ok_if_ne C dX9_ofCrop_12 (by decide),
    ok_no,
    ok_aload_n C dX9_ofCrop_26 rfl,
    ok_iload_n C dX9_ofCrop_27 rfl,
    ok_fun (ok_callV C (kx_w2_rcv E) (ci := 4) (Cn := RX3) (T := TX3) (N := 7) rfl (n := 1) gX9_ofCrop_X3_numberOf rfl (by decide +kernel) ⟨Nat.le_of_ble_eq_true rfl, Nat.le_of_ble_eq_true rfl⟩ dX9_ofCrop_28) (fun av M h => f2_X3_numberOf_ok E h) (Or.inr (fun av M h => f2_X3_numberOf_rc E h)),
    ok_iret C hr hl dX9_ofCrop_31, trivial⟩

theorem mX9_ofLot_0 : Cond.static yX9_isWithin ∈ wsX9_ofLot := by decide +kernel
theorem mX9_ofLot_1 : Cond.methodLink RX9 85 yX9_isWithin ∈ wsX9_ofLot := by decide +kernel
theorem mX9_ofLot_2 : Cond.initialized RX9 ∈ wsX9_ofLot := by decide +kernel
abbrev c2t_X9_ofLot (E : kx_E) (av : List Value) (M : kx_M) (k ks : Nat) (Q : kx_Q) : Prop := kx_CT E (kx_w2 E) yX9_ofLot wsX9_ofLot 4 85 av M k ks Q
def cd_X9_ofLot (E : kx_E) : List (Nat × kx_T) := [
  (0, t_al 1 0),
  (1, t_il 2 1),
  (2, t_fun (f2_X9_lotAt E) 0 0 5 2),
  (5, t_as 6 3),
  (6, t_il 7 2),
  (7, t_push 8 (.int 0)),
  (8, t_push 10 (.int 9)),
  (10, t_fun (f2_X9_isWithin E) 0 0 13 3),
  (13, t_if 16 27 (fun x => x ≠ 0)),
  (16, t_no),
  (27, t_al 28 3),
  (28, t_il 29 2),
  (29, t_fun (f2_X5_numberOf E) 0 0 32 2),
  (32, t_iret)]
set_option maxRecDepth 4000 in
theorem en_X9_ofLot (E : kx_E) {av : List Value} {M : kx_M} {k ks : Nat} {Qr : kx_Q} (hlen : (lg_sl av).length ≤ 4) (h : ∀ G : kx_K, kx_all G Qr (cd_X9_ofLot E) → G k ks 0 (lv_args 0 av) [] M) : c2t_X9_ofLot E av M k ks Qr := by
  refine kx_enter (by decide) rfl hlen (own := RX9) rfl (cd := cd_X9_ofLot E) ?_ h
  intro p e s m below meth c C hr hl hnm
  exact ⟨ok_aload_n C dX9_ofLot_0 rfl,
    ok_iload_n C dX9_ofLot_1 rfl,
    ok_fun (ok_callV C (kx_w2_rcv E) (ci := 10) (Cn := RX9) (T := TX9) (N := 18) rfl (n := 1) gX9_ofLot_X9_lotAt rfl (by decide +kernel) ⟨Nat.le_of_ble_eq_true rfl, Nat.le_of_ble_eq_true rfl⟩ dX9_ofLot_2) (fun av M h => f2_X9_lotAt_ok E h) (Or.inr (fun av M h => f2_X9_lotAt_rc E h)),
    ok_astore_n C dX9_ofLot_5 rfl (by decide),
    ok_iload_n C dX9_ofLot_6 rfl,
    ok_iconst C dX9_ofLot_7 (by decide),
    ok_bipush C dX9_ofLot_8 (by decide),
    ok_fun (ok_callT C (n := 3) ggX9_ofLot_X9_isWithin mX9_ofLot_0 mX9_ofLot_1 mX9_ofLot_2 rfl (by decide +kernel) ⟨Nat.le_of_ble_eq_true rfl, Nat.le_of_ble_eq_true rfl⟩ dX9_ofLot_10) (fun av M h => f2_X9_isWithin_ok E h) (Or.inl rfl),
    ok_if_ne C dX9_ofLot_13 (by decide),
    ok_no,
    ok_aload_n C dX9_ofLot_27 rfl,
    ok_iload_n C dX9_ofLot_28 rfl,
    ok_fun (ok_callV C (kx_w2_rcv E) (ci := 6) (Cn := RX5) (T := TX5) (N := 12) rfl (n := 1) gX9_ofLot_X5_numberOf rfl (by decide +kernel) ⟨Nat.le_of_ble_eq_true rfl, Nat.le_of_ble_eq_true rfl⟩ dX9_ofLot_29) (fun av M h => f2_X5_numberOf_ok E h) (Or.inr (fun av M h => f2_X5_numberOf_rc E h)),
    ok_iret C hr hl dX9_ofLot_32, trivial⟩

theorem mX9_ofGrower_0 : Cond.static yX9_isWithin ∈ wsX9_ofGrower := by decide +kernel
theorem mX9_ofGrower_1 : Cond.methodLink RX9 85 yX9_isWithin ∈ wsX9_ofGrower := by decide +kernel
theorem mX9_ofGrower_2 : Cond.initialized RX9 ∈ wsX9_ofGrower := by decide +kernel
abbrev c2t_X9_ofGrower (E : kx_E) (av : List Value) (M : kx_M) (k ks : Nat) (Q : kx_Q) : Prop := kx_CT E (kx_w2 E) yX9_ofGrower wsX9_ofGrower 4 85 av M k ks Q
def cd_X9_ofGrower (E : kx_E) : List (Nat × kx_T) := [
  (0, t_al 1 0),
  (1, t_il 2 1),
  (2, t_fun (f2_X9_growerAt E) 0 0 5 2),
  (5, t_as 6 3),
  (6, t_il 7 2),
  (7, t_push 8 (.int 0)),
  (8, t_push 9 (.int 4)),
  (9, t_fun (f2_X9_isWithin E) 0 0 12 3),
  (12, t_if 15 26 (fun x => x ≠ 0)),
  (15, t_no),
  (26, t_al 27 3),
  (27, t_il 28 2),
  (28, t_fun (f2_X4_numberOf E) 0 0 31 2),
  (31, t_iret)]
set_option maxRecDepth 4000 in
theorem en_X9_ofGrower (E : kx_E) {av : List Value} {M : kx_M} {k ks : Nat} {Qr : kx_Q} (hlen : (lg_sl av).length ≤ 4) (h : ∀ G : kx_K, kx_all G Qr (cd_X9_ofGrower E) → G k ks 0 (lv_args 0 av) [] M) : c2t_X9_ofGrower E av M k ks Qr := by
  refine kx_enter (by decide) rfl hlen (own := RX9) rfl (cd := cd_X9_ofGrower E) ?_ h
  intro p e s m below meth c C hr hl hnm
  exact ⟨ok_aload_n C dX9_ofGrower_0 rfl,
    ok_iload_n C dX9_ofGrower_1 rfl,
    ok_fun (ok_callV C (kx_w2_rcv E) (ci := 10) (Cn := RX9) (T := TX9) (N := 18) rfl (n := 1) gX9_ofGrower_X9_growerAt rfl (by decide +kernel) ⟨Nat.le_of_ble_eq_true rfl, Nat.le_of_ble_eq_true rfl⟩ dX9_ofGrower_2) (fun av M h => f2_X9_growerAt_ok E h) (Or.inr (fun av M h => f2_X9_growerAt_rc E h)),
    ok_astore_n C dX9_ofGrower_5 rfl (by decide),
    ok_iload_n C dX9_ofGrower_6 rfl,
    ok_iconst C dX9_ofGrower_7 (by decide),
    ok_iconst C dX9_ofGrower_8 (by decide),
    ok_fun (ok_callT C (n := 3) ggX9_ofGrower_X9_isWithin mX9_ofGrower_0 mX9_ofGrower_1 mX9_ofGrower_2 rfl (by decide +kernel) ⟨Nat.le_of_ble_eq_true rfl, Nat.le_of_ble_eq_true rfl⟩ dX9_ofGrower_9) (fun av M h => f2_X9_isWithin_ok E h) (Or.inl rfl),
    ok_if_ne C dX9_ofGrower_12 (by decide),
    ok_no,
    ok_aload_n C dX9_ofGrower_26 rfl,
    ok_iload_n C dX9_ofGrower_27 rfl,
    ok_fun (ok_callV C (kx_w2_rcv E) (ci := 5) (Cn := RX4) (T := TX4) (N := 5) rfl (n := 1) gX9_ofGrower_X4_numberOf rfl (by decide +kernel) ⟨Nat.le_of_ble_eq_true rfl, Nat.le_of_ble_eq_true rfl⟩ dX9_ofGrower_28) (fun av M h => f2_X4_numberOf_ok E h) (Or.inr (fun av M h => f2_X4_numberOf_rc E h)),
    ok_iret C hr hl dX9_ofGrower_31, trivial⟩

theorem mX9_ofBuyer_0 : Cond.static yX9_isWithin ∈ wsX9_ofBuyer := by decide +kernel
theorem mX9_ofBuyer_1 : Cond.methodLink RX9 85 yX9_isWithin ∈ wsX9_ofBuyer := by decide +kernel
theorem mX9_ofBuyer_2 : Cond.initialized RX9 ∈ wsX9_ofBuyer := by decide +kernel
abbrev c2t_X9_ofBuyer (E : kx_E) (av : List Value) (M : kx_M) (k ks : Nat) (Q : kx_Q) : Prop := kx_CT E (kx_w2 E) yX9_ofBuyer wsX9_ofBuyer 4 85 av M k ks Q
def cd_X9_ofBuyer (E : kx_E) : List (Nat × kx_T) := [
  (0, t_al 1 0),
  (1, t_il 2 1),
  (2, t_fun (f2_X9_buyerAt E) 0 0 5 2),
  (5, t_as 6 3),
  (6, t_il 7 2),
  (7, t_push 8 (.int 0)),
  (8, t_push 10 (.int 8)),
  (10, t_fun (f2_X9_isWithin E) 0 0 13 3),
  (13, t_if 16 27 (fun x => x ≠ 0)),
  (16, t_no),
  (27, t_al 28 3),
  (28, t_il 29 2),
  (29, t_fun (f2_X0_numberOf E) 0 0 32 2),
  (32, t_iret)]
set_option maxRecDepth 4000 in
theorem en_X9_ofBuyer (E : kx_E) {av : List Value} {M : kx_M} {k ks : Nat} {Qr : kx_Q} (hlen : (lg_sl av).length ≤ 4) (h : ∀ G : kx_K, kx_all G Qr (cd_X9_ofBuyer E) → G k ks 0 (lv_args 0 av) [] M) : c2t_X9_ofBuyer E av M k ks Qr := by
  refine kx_enter (by decide) rfl hlen (own := RX9) rfl (cd := cd_X9_ofBuyer E) ?_ h
  intro p e s m below meth c C hr hl hnm
  exact ⟨ok_aload_n C dX9_ofBuyer_0 rfl,
    ok_iload_n C dX9_ofBuyer_1 rfl,
    ok_fun (ok_callV C (kx_w2_rcv E) (ci := 10) (Cn := RX9) (T := TX9) (N := 18) rfl (n := 1) gX9_ofBuyer_X9_buyerAt rfl (by decide +kernel) ⟨Nat.le_of_ble_eq_true rfl, Nat.le_of_ble_eq_true rfl⟩ dX9_ofBuyer_2) (fun av M h => f2_X9_buyerAt_ok E h) (Or.inr (fun av M h => f2_X9_buyerAt_rc E h)),
    ok_astore_n C dX9_ofBuyer_5 rfl (by decide),
    ok_iload_n C dX9_ofBuyer_6 rfl,
    ok_iconst C dX9_ofBuyer_7 (by decide),
    ok_bipush C dX9_ofBuyer_8 (by decide),
    ok_fun (ok_callT C (n := 3) ggX9_ofBuyer_X9_isWithin mX9_ofBuyer_0 mX9_ofBuyer_1 mX9_ofBuyer_2 rfl (by decide +kernel) ⟨Nat.le_of_ble_eq_true rfl, Nat.le_of_ble_eq_true rfl⟩ dX9_ofBuyer_10) (fun av M h => f2_X9_isWithin_ok E h) (Or.inl rfl),
    ok_if_ne C dX9_ofBuyer_13 (by decide),
    ok_no,
    ok_aload_n C dX9_ofBuyer_27 rfl,
    ok_iload_n C dX9_ofBuyer_28 rfl,
    ok_fun (ok_callV C (kx_w2_rcv E) (ci := 1) (Cn := RX0) (T := TX0) (N := 11) rfl (n := 1) gX9_ofBuyer_X0_numberOf rfl (by decide +kernel) ⟨Nat.le_of_ble_eq_true rfl, Nat.le_of_ble_eq_true rfl⟩ dX9_ofBuyer_29) (fun av M h => f2_X0_numberOf_ok E h) (Or.inr (fun av M h => f2_X0_numberOf_rc E h)),
    ok_iret C hr hl dX9_ofBuyer_32, trivial⟩

abbrev c2t_X9_readyIn (E : kx_E) (av : List Value) (M : kx_M) (k ks : Nat) (Q : kx_Q) : Prop := kx_CT E (kx_w2 E) yX9_readyIn wsX9_readyIn 4 85 av M k ks Q
def cd_X9_readyIn (E : kx_E) : List (Nat × kx_T) := [
  (0, t_al 1 0),
  (1, t_al 2 0),
  (2, t_il 3 1),
  (3, t_fun (f2_X9_cropAt E) 0 0 6 2),
  (6, t_fun (f2_X9_hoursUntilReady E) 0 0 9 2),
  (9, t_iret)]
set_option maxRecDepth 4000 in
theorem en_X9_readyIn (E : kx_E) {av : List Value} {M : kx_M} {k ks : Nat} {Qr : kx_Q} (hlen : (lg_sl av).length ≤ 2) (h : ∀ G : kx_K, kx_all G Qr (cd_X9_readyIn E) → G k ks 0 (lv_args 0 av) [] M) : c2t_X9_readyIn E av M k ks Qr := by
  refine kx_enter (by decide) rfl hlen (own := RX9) rfl (cd := cd_X9_readyIn E) ?_ h
  intro p e s m below meth c C hr hl hnm
  exact ⟨ok_aload_n C dX9_readyIn_0 rfl,
    ok_aload_n C dX9_readyIn_1 rfl,
    ok_iload_n C dX9_readyIn_2 rfl,
    ok_fun (ok_callV C (kx_w2_rcv E) (ci := 10) (Cn := RX9) (T := TX9) (N := 18) rfl (n := 1) gX9_readyIn_X9_cropAt rfl (by decide +kernel) ⟨Nat.le_of_ble_eq_true rfl, Nat.le_of_ble_eq_true rfl⟩ dX9_readyIn_3) (fun av M h => f2_X9_cropAt_ok E h) (Or.inr (fun av M h => f2_X9_cropAt_rc E h)),
    ok_fun (ok_callV C (kx_w2_rcv E) (ci := 10) (Cn := RX9) (T := TX9) (N := 18) rfl (n := 1) gX9_readyIn_X9_hoursUntilReady rfl (by decide +kernel) ⟨Nat.le_of_ble_eq_true rfl, Nat.le_of_ble_eq_true rfl⟩ dX9_readyIn_6) (fun av M h => f2_X9_hoursUntilReady_ok E h) (Or.inr (fun av M h => f2_X9_hoursUntilReady_rc E h)),
    ok_iret C hr hl dX9_readyIn_9, trivial⟩

abbrev c2t_X9_row (E : kx_E) (av : List Value) (M : kx_M) (k ks : Nat) (Q : kx_Q) : Prop := kx_CT E (kx_w2 E) yX9_row wsX9_row 4 85 av M k ks Q
def cd_X9_row (E : kx_E) : List (Nat × kx_T) := [
  (0, t_il 1 1),
  (1, t_if 4 15 (fun x => 0 ≤ x)),
  (4, t_no),
  (15, t_al 16 0),
  (16, t_il 17 1),
  (17, t_fun (f2_X9_lotInRow E) 0 0 20 2),
  (20, t_iret)]
set_option maxRecDepth 4000 in
theorem en_X9_row (E : kx_E) {av : List Value} {M : kx_M} {k ks : Nat} {Qr : kx_Q} (hlen : (lg_sl av).length ≤ 2) (h : ∀ G : kx_K, kx_all G Qr (cd_X9_row E) → G k ks 0 (lv_args 0 av) [] M) : c2t_X9_row E av M k ks Qr := by
  refine kx_enter (by decide) rfl hlen (own := RX9) rfl (cd := cd_X9_row E) ?_ h
  intro p e s m below meth c C hr hl hnm
  exact ⟨ok_iload_n C dX9_row_0 rfl,
    ok_if_ge C dX9_row_1 (by decide),
    ok_no,
    ok_aload_n C dX9_row_15 rfl,
    ok_iload_n C dX9_row_16 rfl,
    ok_fun (ok_callV C (kx_w2_rcv E) (ci := 10) (Cn := RX9) (T := TX9) (N := 18) rfl (n := 1) gX9_row_X9_lotInRow rfl (by decide +kernel) ⟨Nat.le_of_ble_eq_true rfl, Nat.le_of_ble_eq_true rfl⟩ dX9_row_17) (fun av M h => f2_X9_lotInRow_ok E h) (Or.inr (fun av M h => f2_X9_lotInRow_rc E h)),
    ok_iret C hr hl dX9_row_20, trivial⟩
