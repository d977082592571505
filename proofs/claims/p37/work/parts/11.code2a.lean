abbrev c2t_X9_isWithin (E : kx_E) (av : List Value) (M : kx_M) (k ks : Nat) (Q : kx_Q) : Prop := kx_CT E (kx_w2 E) yX9_isWithin wsX9_isWithin 0 0 av M k ks Q
def cd_X9_isWithin (E : kx_E) : List (Nat × kx_T) := [
  (0, t_il 1 0),
  (1, t_il 2 1),
  (2, t_ic 5 14 (fun x y => x < y)),
  (5, t_il 6 0),
  (6, t_il 7 2),
  (7, t_ic 10 14 (fun x y => y < x)),
  (10, t_push 11 (.int 1)),
  (11, t_go 15),
  (14, t_push 15 (.int 0)),
  (15, t_zret)]
set_option maxRecDepth 4000 in
theorem en_X9_isWithin (E : kx_E) {av : List Value} {M : kx_M} {k ks : Nat} {Qr : kx_Q} (hlen : (lg_sl av).length ≤ 3) (h : ∀ G : kx_K, kx_all G Qr (cd_X9_isWithin E) → G k ks 0 (lv_args 0 av) [] M) : c2t_X9_isWithin E av M k ks Qr := by
  refine kx_enter (by decide) rfl hlen (own := RX9) rfl (cd := cd_X9_isWithin E) ?_ h
  intro p e s m below meth c C hr hl hnm
  exact ⟨ok_iload_n C dX9_isWithin_0 rfl,
    ok_iload_n C dX9_isWithin_1 rfl,
    ok_ic_lt C dX9_isWithin_2 (by decide),
    ok_iload_n C dX9_isWithin_5 rfl,
    ok_iload_n C dX9_isWithin_6 rfl,
    ok_ic_gt C dX9_isWithin_7 (by decide),
    ok_iconst C dX9_isWithin_10 (by decide),
    ok_goto C dX9_isWithin_11 (by decide),
    ok_iconst C dX9_isWithin_14 (by decide),
    ok_zret C hr hl dX9_isWithin_15, trivial⟩

abbrev c2t_X9_isCultivar (E : kx_E) (av : List Value) (M : kx_M) (k ks : Nat) (Q : kx_Q) : Prop := kx_CT E (kx_w2 E) yX9_isCultivar wsX9_isCultivar 0 0 av M k ks Q
def cd_X9_isCultivar (E : kx_E) : List (Nat × kx_T) := [
  (0, t_il 1 0),
  (1, t_if 4 13 (fun x => x < 0)),
  (4, t_il 5 0),
  (5, t_push 6 (.int 3)),
  (6, t_ic 9 13 (fun x y => y ≤ x)),
  (9, t_push 10 (.int 1)),
  (10, t_go 14),
  (13, t_push 14 (.int 0)),
  (14, t_zret)]
set_option maxRecDepth 4000 in
theorem en_X9_isCultivar (E : kx_E) {av : List Value} {M : kx_M} {k ks : Nat} {Qr : kx_Q} (hlen : (lg_sl av).length ≤ 1) (h : ∀ G : kx_K, kx_all G Qr (cd_X9_isCultivar E) → G k ks 0 (lv_args 0 av) [] M) : c2t_X9_isCultivar E av M k ks Qr := by
  refine kx_enter (by decide) rfl hlen (own := RX9) rfl (cd := cd_X9_isCultivar E) ?_ h
  intro p e s m below meth c C hr hl hnm
  exact ⟨ok_iload_n C dX9_isCultivar_0 rfl,
    ok_if_lt C dX9_isCultivar_1 (by decide),
    ok_iload_n C dX9_isCultivar_4 rfl,
    ok_iconst C dX9_isCultivar_5 (by decide),
    ok_ic_ge C dX9_isCultivar_6 (by decide),
    ok_iconst C dX9_isCultivar_9 (by decide),
    ok_goto C dX9_isCultivar_10 (by decide),
    ok_iconst C dX9_isCultivar_13 (by decide),
    ok_zret C hr hl dX9_isCultivar_14, trivial⟩

abbrev c2t_X9_bucketsFor (E : kx_E) (av : List Value) (M : kx_M) (k ks : Nat) (Q : kx_Q) : Prop := kx_CT E (kx_w2 E) yX9_bucketsFor wsX9_bucketsFor 0 0 av M k ks Q
def cd_X9_bucketsFor (E : kx_E) : List (Nat × kx_T) := [
  (0, t_il 1 0),
  (1, t_push 3 (.int 20)),
  (3, t_dv 4 (fun x y => x / y)),
  (4, t_il 5 0),
  (5, t_push 7 (.int 20)),
  (7, t_dv 8 (fun x y => x - x / y * y)),
  (8, t_if 11 15 (fun x => x ≤ 0)),
  (11, t_push 12 (.int 1)),
  (12, t_go 16),
  (15, t_push 16 (.int 0)),
  (16, t_bin 17 (fun x y => x + y)),
  (17, t_iret)]
set_option maxRecDepth 4000 in
theorem en_X9_bucketsFor (E : kx_E) {av : List Value} {M : kx_M} {k ks : Nat} {Qr : kx_Q} (hlen : (lg_sl av).length ≤ 1) (h : ∀ G : kx_K, kx_all G Qr (cd_X9_bucketsFor E) → G k ks 0 (lv_args 0 av) [] M) : c2t_X9_bucketsFor E av M k ks Qr := by
  refine kx_enter (by decide) rfl hlen (own := RX9) rfl (cd := cd_X9_bucketsFor E) ?_ h
  intro p e s m below meth c C hr hl hnm
  exact ⟨ok_iload_n C dX9_bucketsFor_0 rfl,
    ok_bipush C dX9_bucketsFor_1 (by decide),
    ok_idiv C dX9_bucketsFor_3,
    ok_iload_n C dX9_bucketsFor_4 rfl,
    ok_bipush C dX9_bucketsFor_5 (by decide),
    ok_irem C dX9_bucketsFor_7,
    ok_if_le C dX9_bucketsFor_8 (by decide),
    ok_iconst C dX9_bucketsFor_11 (by decide),
    ok_goto C dX9_bucketsFor_12 (by decide),
    ok_iconst C dX9_bucketsFor_15 (by decide),
    ok_iadd C dX9_bucketsFor_16,
    ok_iret C hr hl dX9_bucketsFor_17, trivial⟩

abbrev c2t_X9_shareOfGrower (E : kx_E) (av : List Value) (M : kx_M) (k ks : Nat) (Q : kx_Q) : Prop := kx_CT E (kx_w2 E) yX9_shareOfGrower wsX9_shareOfGrower 0 0 av M k ks Q
def cd_X9_shareOfGrower (E : kx_E) : List (Nat × kx_T) := [
  (0, t_il 1 0),
  (1, t_il 2 0),
  (2, t_push 4 (.int 20)),
  (4, t_dv 5 (fun x y => x / y)),
  (5, t_bin 6 (fun x y => x - y)),
  (6, t_iret)]
set_option maxRecDepth 4000 in
theorem en_X9_shareOfGrower (E : kx_E) {av : List Value} {M : kx_M} {k ks : Nat} {Qr : kx_Q} (hlen : (lg_sl av).length ≤ 1) (h : ∀ G : kx_K, kx_all G Qr (cd_X9_shareOfGrower E) → G k ks 0 (lv_args 0 av) [] M) : c2t_X9_shareOfGrower E av M k ks Qr := by
  refine kx_enter (by decide) rfl hlen (own := RX9) rfl (cd := cd_X9_shareOfGrower E) ?_ h
  intro p e s m below meth c C hr hl hnm
  exact ⟨ok_iload_n C dX9_shareOfGrower_0 rfl,
    ok_iload_n C dX9_shareOfGrower_1 rfl,
    ok_bipush C dX9_shareOfGrower_2 (by decide),
    ok_idiv C dX9_shareOfGrower_4,
    ok_isub C dX9_shareOfGrower_5,
    ok_iret C hr hl dX9_shareOfGrower_6, trivial⟩

abbrev c2t_X9_sumAsked (E : kx_E) (av : List Value) (M : kx_M) (k ks : Nat) (Q : kx_Q) : Prop := kx_CT E (kx_w2 E) yX9_sumAsked wsX9_sumAsked 0 0 av M k ks Q
def cd_X9_sumAsked (E : kx_E) : List (Nat × kx_T) := [
  (0, t_il 1 0),
  (1, t_sw [(0, 28), (1, 31)] 34),
  (28, t_push 30 (.int 60)),
  (30, t_iret),
  (31, t_push 33 (.int 90)),
  (33, t_iret),
  (34, t_push 36 (.int 120)),
  (36, t_iret)]
set_option maxRecDepth 4000 in
theorem en_X9_sumAsked (E : kx_E) {av : List Value} {M : kx_M} {k ks : Nat} {Qr : kx_Q} (hlen : (lg_sl av).length ≤ 1) (h : ∀ G : kx_K, kx_all G Qr (cd_X9_sumAsked E) → G k ks 0 (lv_args 0 av) [] M) : c2t_X9_sumAsked E av M k ks Qr := by
  refine kx_enter (by decide) rfl hlen (own := RX9) rfl (cd := cd_X9_sumAsked E) ?_ h
  intro p e s m below meth c C hr hl hnm
  exact ⟨ok_iload_n C dX9_sumAsked_0 rfl,
    ok_lsw C dX9_sumAsked_1 (by decide) (fun x => sw_look x (by decide) (by decide)),
    ok_bipush C dX9_sumAsked_28 (by decide),
    ok_iret C hr hl dX9_sumAsked_30,
    ok_bipush C dX9_sumAsked_31 (by decide),
    ok_iret C hr hl dX9_sumAsked_33,
    ok_bipush C dX9_sumAsked_34 (by decide),
    ok_iret C hr hl dX9_sumAsked_36, trivial⟩

abbrev c2t_X9_freshLife (E : kx_E) (av : List Value) (M : kx_M) (k ks : Nat) (Q : kx_Q) : Prop := kx_CT E (kx_w2 E) yX9_freshLife wsX9_freshLife 0 0 av M k ks Q
def cd_X9_freshLife (E : kx_E) : List (Nat × kx_T) := [
  (0, t_il 1 0),
  (1, t_sw [(0, 28), (1, 31)] 34),
  (28, t_push 30 (.int 90)),
  (30, t_iret),
  (31, t_push 33 (.int 70)),
  (33, t_iret),
  (34, t_push 36 (.int 110)),
  (36, t_iret)]
set_option maxRecDepth 4000 in
theorem en_X9_freshLife (E : kx_E) {av : List Value} {M : kx_M} {k ks : Nat} {Qr : kx_Q} (hlen : (lg_sl av).length ≤ 1) (h : ∀ G : kx_K, kx_all G Qr (cd_X9_freshLife E) → G k ks 0 (lv_args 0 av) [] M) : c2t_X9_freshLife E av M k ks Qr := by
  refine kx_enter (by decide) rfl hlen (own := RX9) rfl (cd := cd_X9_freshLife E) ?_ h
  intro p e s m below meth c C hr hl hnm
  exact ⟨ok_iload_n C dX9_freshLife_0 rfl,
    ok_lsw C dX9_freshLife_1 (by decide) (fun x => sw_look x (by decide) (by decide)),
    ok_bipush C dX9_freshLife_28 (by decide),
    ok_iret C hr hl dX9_freshLife_30,
    ok_bipush C dX9_freshLife_31 (by decide),
    ok_iret C hr hl dX9_freshLife_33,
    ok_bipush C dX9_freshLife_34 (by decide),
    ok_iret C hr hl dX9_freshLife_36, trivial⟩

abbrev c2t_X9_lifeLostIn (E : kx_E) (av : List Value) (M : kx_M) (k ks : Nat) (Q : kx_Q) : Prop := kx_CT E (kx_w2 E) yX9_lifeLostIn wsX9_lifeLostIn 0 0 av M k ks Q
def cd_X9_lifeLostIn (E : kx_E) : List (Nat × kx_T) := [
  (0, t_il 1 0),
  (1, t_sw [(0, 28), (1, 30)] 32),
  (28, t_push 29 (.int 1)),
  (29, t_iret),
  (30, t_push 31 (.int 3)),
  (31, t_iret),
  (32, t_push 34 (.int 6)),
  (34, t_iret)]
set_option maxRecDepth 4000 in
theorem en_X9_lifeLostIn (E : kx_E) {av : List Value} {M : kx_M} {k ks : Nat} {Qr : kx_Q} (hlen : (lg_sl av).length ≤ 1) (h : ∀ G : kx_K, kx_all G Qr (cd_X9_lifeLostIn E) → G k ks 0 (lv_args 0 av) [] M) : c2t_X9_lifeLostIn E av M k ks Qr := by
  refine kx_enter (by decide) rfl hlen (own := RX9) rfl (cd := cd_X9_lifeLostIn E) ?_ h
  intro p e s m below meth c C hr hl hnm
  exact ⟨ok_iload_n C dX9_lifeLostIn_0 rfl,
    ok_lsw C dX9_lifeLostIn_1 (by decide) (fun x => sw_look x (by decide) (by decide)),
    ok_iconst C dX9_lifeLostIn_28 (by decide),
    ok_iret C hr hl dX9_lifeLostIn_29,
    ok_iconst C dX9_lifeLostIn_30 (by decide),
    ok_iret C hr hl dX9_lifeLostIn_31,
    ok_bipush C dX9_lifeLostIn_32 (by decide),
    ok_iret C hr hl dX9_lifeLostIn_34, trivial⟩

theorem mX9_mixed_0 : Cond.constantLong RX9 478 (31) ∈ wsX9_mixed := by decide +kernel
abbrev c2t_X9_mixed (E : kx_E) (av : List Value) (M : kx_M) (k ks : Nat) (Q : kx_Q) : Prop := kx_CT E (kx_w2 E) yX9_mixed wsX9_mixed 0 0 av M k ks Q
def cd_X9_mixed (E : kx_E) : List (Nat × kx_T) := [
  (0, t_ll 1 0),
  (1, t_push 4 (.long 31)),
  (4, t_lbin 5 (fun x y => x * y)),
  (5, t_ll 6 2),
  (6, t_lbin 7 (fun x y => x + y)),
  (7, t_lret)]
set_option maxRecDepth 4000 in
theorem en_X9_mixed (E : kx_E) {av : List Value} {M : kx_M} {k ks : Nat} {Qr : kx_Q} (hlen : (lg_sl av).length ≤ 4) (h : ∀ G : kx_K, kx_all G Qr (cd_X9_mixed E) → G k ks 0 (lv_args 0 av) [] M) : c2t_X9_mixed E av M k ks Qr := by
  refine kx_enter (by decide) rfl hlen (own := RX9) rfl (cd := cd_X9_mixed E) ?_ h
  intro p e s m below meth c C hr hl hnm
  exact ⟨ok_lload_n C dX9_mixed_0 rfl,
    ok_ldc2 C dX9_mixed_1 mX9_mixed_0,
    ok_lmul C dX9_mixed_4,
    ok_lload_n C dX9_mixed_5 rfl,
    ok_ladd C dX9_mixed_6,
    ok_lret C hr hl dX9_mixed_7, trivial⟩

theorem mX0_numberOf_0 : Cond.fieldLink RX0 20 "Bloomclock$Buyer" "coins" "I" ∈ wsX0_numberOf := by decide +kernel
theorem hiX0_numberOf_1 : ∀ w ∈ u_ws RX0 TX0 11, w ∈ wsX0_numberOf := by decide +kernel
theorem mX0_numberOf_2 : Cond.fieldLink RX0 30 "Bloomclock$Buyer" "latency" "I" ∈ wsX0_numberOf := by decide +kernel
theorem mX0_numberOf_3 : Cond.fieldLink RX0 33 "Bloomclock$Buyer" "evened" "I" ∈ wsX0_numberOf := by decide +kernel
theorem mX0_numberOf_4 : Cond.fieldLink RX0 24 "Bloomclock$Buyer" "leavingHour" "I" ∈ wsX0_numberOf := by decide +kernel
theorem mX0_numberOf_5 : Cond.fieldLink RX0 36 "Bloomclock$Buyer" "buckets" "I" ∈ wsX0_numberOf := by decide +kernel
theorem mX0_numberOf_6 : Cond.fieldLink RX0 39 "Bloomclock$Buyer" "bouquets" "I" ∈ wsX0_numberOf := by decide +kernel
theorem mX0_numberOf_7 : Cond.fieldLink RX0 14 "Bloomclock$Buyer" "stock" "LBloomclock$ByCultivar;" ∈ wsX0_numberOf := by decide +kernel
abbrev c2t_X0_numberOf (E : kx_E) (av : List Value) (M : kx_M) (k ks : Nat) (Q : kx_Q) : Prop := kx_CT E (kx_w2 E) yX0_numberOf wsX0_numberOf 1 21 av M k ks Q
def cd_X0_numberOf (E : kx_E) : List (Nat × kx_T) := [
  (0, t_il 1 1),
  (1, t_sw [(0, 52), (1, 57), (2, 62), (3, 67), (4, 82), (5, 82), (6, 82), (7, 72), (8, 77)] 82),
  (52, t_al 53 0),
  (53, t_gI 56 2 23),
  (56, t_iret),
  (57, t_al 58 0),
  (58, t_gI 61 2 21),
  (61, t_iret),
  (62, t_al 63 0),
  (63, t_gI 66 2 24),
  (66, t_iret),
  (67, t_al 68 0),
  (68, t_gI 71 2 25),
  (71, t_iret),
  (72, t_al 73 0),
  (73, t_gI 76 2 26),
  (76, t_iret),
  (77, t_al 78 0),
  (78, t_gI 81 2 27),
  (81, t_iret),
  (82, t_al 83 0),
  (83, t_gR 86 2 22),
  (86, t_il 87 1),
  (87, t_push 88 (.int 4)),
  (88, t_bin 89 (fun x y => x - y)),
  (89, t_fun (f2_X1_of E) 0 0 92 2),
  (92, t_iret)]
set_option maxRecDepth 4000 in
theorem en_X0_numberOf (E : kx_E) {av : List Value} {M : kx_M} {k ks : Nat} {Qr : kx_Q} (hlen : (lg_sl av).length ≤ 2) (h : ∀ G : kx_K, kx_all G Qr (cd_X0_numberOf E) → G k ks 0 (lv_args 0 av) [] M) : c2t_X0_numberOf E av M k ks Qr := by
  refine kx_enter (by decide) rfl hlen (own := RX0) rfl (cd := cd_X0_numberOf E) ?_ h
  intro p e s m below meth c C hr hl hnm
  exact ⟨ok_iload_n C dX0_numberOf_0 rfl,
    ok_tsw C dX0_numberOf_1 (by decide) (by decide +kernel) (by decide) (by decide) (by decide +kernel),
    ok_aload_n C dX0_numberOf_52 rfl,
    ok_gI C (ci := 1) (k := 3) (Cn := RX0) (T := TX0) (N := 11) (index := 20) (ref := "Bloomclock$Buyer") (kx_w2_good E) rfl rfl (by decide) hiX0_numberOf_1 mX0_numberOf_0 (fun _ h9 => h9) rfl dX0_numberOf_53,
    ok_iret C hr hl dX0_numberOf_56,
    ok_aload_n C dX0_numberOf_57 rfl,
    ok_gI C (ci := 1) (k := 1) (Cn := RX0) (T := TX0) (N := 11) (index := 30) (ref := "Bloomclock$Buyer") (kx_w2_good E) rfl rfl (by decide) hiX0_numberOf_1 mX0_numberOf_2 (fun _ h9 => h9) rfl dX0_numberOf_58,
    ok_iret C hr hl dX0_numberOf_61,
    ok_aload_n C dX0_numberOf_62 rfl,
    ok_gI C (ci := 1) (k := 4) (Cn := RX0) (T := TX0) (N := 11) (index := 33) (ref := "Bloomclock$Buyer") (kx_w2_good E) rfl rfl (by decide) hiX0_numberOf_1 mX0_numberOf_3 (fun _ h9 => h9) rfl dX0_numberOf_63,
    ok_iret C hr hl dX0_numberOf_66,
    ok_aload_n C dX0_numberOf_67 rfl,
    ok_gI C (ci := 1) (k := 5) (Cn := RX0) (T := TX0) (N := 11) (index := 24) (ref := "Bloomclock$Buyer") (kx_w2_good E) rfl rfl (by decide) hiX0_numberOf_1 mX0_numberOf_4 (fun _ h9 => h9) rfl dX0_numberOf_68,
    ok_iret C hr hl dX0_numberOf_71,
    ok_aload_n C dX0_numberOf_72 rfl,
    ok_gI C (ci := 1) (k := 6) (Cn := RX0) (T := TX0) (N := 11) (index := 36) (ref := "Bloomclock$Buyer") (kx_w2_good E) rfl rfl (by decide) hiX0_numberOf_1 mX0_numberOf_5 (fun _ h9 => h9) rfl dX0_numberOf_73,
    ok_iret C hr hl dX0_numberOf_76,
    ok_aload_n C dX0_numberOf_77 rfl,
    ok_gI C (ci := 1) (k := 7) (Cn := RX0) (T := TX0) (N := 11) (index := 39) (ref := "Bloomclock$Buyer") (kx_w2_good E) rfl rfl (by decide) hiX0_numberOf_1 mX0_numberOf_6 (fun _ h9 => h9) rfl dX0_numberOf_78,
    ok_iret C hr hl dX0_numberOf_81,
    ok_aload_n C dX0_numberOf_82 rfl,
    ok_gR C (ci := 1) (k := 2) (Cn := RX0) (T := TX0) (N := 11) (index := 14) (ref := "Bloomclock$Buyer") (kx_w2_good E) rfl rfl (by decide) hiX0_numberOf_1 mX0_numberOf_7 (fun _ h9 => h9) rfl dX0_numberOf_83,
    ok_iload_n C dX0_numberOf_86 rfl,
    ok_iconst C dX0_numberOf_87 (by decide),
    ok_isub C dX0_numberOf_88,
    ok_fun (ok_callV C (kx_w2_rcv E) (ci := 2) (Cn := RX1) (T := TX1) (N := 1) rfl (n := 1) gX0_numberOf_X1_of rfl (by decide +kernel) ⟨Nat.le_of_ble_eq_true rfl, Nat.le_of_ble_eq_true rfl⟩ dX0_numberOf_89) (fun av M h => f2_X1_of_ok E h) (Or.inr (fun av M h => f2_X1_of_rc E h)),
    ok_iret C hr hl dX0_numberOf_92, trivial⟩

theorem mX4_numberOf_0 : Cond.fieldLink RX4 18 "Bloomclock$Grower" "coins" "I" ∈ wsX4_numberOf := by decide +kernel
theorem hiX4_numberOf_5 : ∀ w ∈ u_ws RX4 TX4 5, w ∈ wsX4_numberOf := by decide +kernel
theorem mX4_numberOf_2 : Cond.fieldLink RX4 25 "Bloomclock$Grower" "lamps" "I" ∈ wsX4_numberOf := by decide +kernel
theorem mX4_numberOf_3 : Cond.fieldLink RX4 22 "Bloomclock$Grower" "mark" "I" ∈ wsX4_numberOf := by decide +kernel
theorem mX4_numberOf_4 : Cond.fieldLink RX4 28 "Bloomclock$Grower" "soldStems" "I" ∈ wsX4_numberOf := by decide +kernel
theorem mX4_numberOf_5 : Cond.fieldLink RX4 12 "Bloomclock$Grower" "broughtToday" "LBloomclock$ByCultivar;" ∈ wsX4_numberOf := by decide +kernel
abbrev c2t_X4_numberOf (E : kx_E) (av : List Value) (M : kx_M) (k ks : Nat) (Q : kx_Q) : Prop := kx_CT E (kx_w2 E) yX4_numberOf wsX4_numberOf 1 22 av M k ks Q
def cd_X4_numberOf (E : kx_E) : List (Nat × kx_T) := [
  (0, t_il 1 1),
  (1, t_sw [(0, 32), (1, 37), (2, 42), (3, 47)] 52),
  (32, t_al 33 0),
  (33, t_gI 36 6 101),
  (36, t_iret),
  (37, t_al 38 0),
  (38, t_gI 41 6 102),
  (41, t_iret),
  (42, t_al 43 0),
  (43, t_gI 46 6 103),
  (46, t_iret),
  (47, t_al 48 0),
  (48, t_gI 51 6 104),
  (51, t_iret),
  (52, t_al 53 0),
  (53, t_gR 56 6 100),
  (56, t_fun (f2_X1_total E) 0 0 59 1),
  (59, t_iret)]
set_option maxRecDepth 4000 in
theorem en_X4_numberOf (E : kx_E) {av : List Value} {M : kx_M} {k ks : Nat} {Qr : kx_Q} (hlen : (lg_sl av).length ≤ 2) (h : ∀ G : kx_K, kx_all G Qr (cd_X4_numberOf E) → G k ks 0 (lv_args 0 av) [] M) : c2t_X4_numberOf E av M k ks Qr := by
  refine kx_enter (by decide) rfl hlen (own := RX4) rfl (cd := cd_X4_numberOf E) ?_ h
  intro p e s m below meth c C hr hl hnm
  exact ⟨ok_iload_n C dX4_numberOf_0 rfl,
    ok_tsw C dX4_numberOf_1 (by decide) (by decide +kernel) (by decide) (by decide) (by decide +kernel),
    ok_aload_n C dX4_numberOf_32 rfl,
    ok_gI C (ci := 5) (k := 1) (Cn := RX4) (T := TX4) (N := 5) (index := 18) (ref := "Bloomclock$Grower") (kx_w2_good E) rfl rfl (by decide) hiX4_numberOf_5 mX4_numberOf_0 (fun _ h9 => h9) rfl dX4_numberOf_33,
    ok_iret C hr hl dX4_numberOf_36,
    ok_aload_n C dX4_numberOf_37 rfl,
    ok_gI C (ci := 5) (k := 2) (Cn := RX4) (T := TX4) (N := 5) (index := 25) (ref := "Bloomclock$Grower") (kx_w2_good E) rfl rfl (by decide) hiX4_numberOf_5 mX4_numberOf_2 (fun _ h9 => h9) rfl dX4_numberOf_38,
    ok_iret C hr hl dX4_numberOf_41,
    ok_aload_n C dX4_numberOf_42 rfl,
    ok_gI C (ci := 5) (k := 3) (Cn := RX4) (T := TX4) (N := 5) (index := 22) (ref := "Bloomclock$Grower") (kx_w2_good E) rfl rfl (by decide) hiX4_numberOf_5 mX4_numberOf_3 (fun _ h9 => h9) rfl dX4_numberOf_43,
    ok_iret C hr hl dX4_numberOf_46,
    ok_aload_n C dX4_numberOf_47 rfl,
    ok_gI C (ci := 5) (k := 4) (Cn := RX4) (T := TX4) (N := 5) (index := 28) (ref := "Bloomclock$Grower") (kx_w2_good E) rfl rfl (by decide) hiX4_numberOf_5 mX4_numberOf_4 (fun _ h9 => h9) rfl dX4_numberOf_48,
    ok_iret C hr hl dX4_numberOf_51,
    ok_aload_n C dX4_numberOf_52 rfl,
    ok_gR C (ci := 5) (k := 0) (Cn := RX4) (T := TX4) (N := 5) (index := 12) (ref := "Bloomclock$Grower") (kx_w2_good E) rfl rfl (by decide) hiX4_numberOf_5 mX4_numberOf_5 (fun _ h9 => h9) rfl dX4_numberOf_53,
    ok_fun (ok_callV C (kx_w2_rcv E) (ci := 2) (Cn := RX1) (T := TX1) (N := 1) rfl (n := 0) gX4_numberOf_X1_total rfl (by decide +kernel) ⟨Nat.le_of_ble_eq_true rfl, Nat.le_of_ble_eq_true rfl⟩ dX4_numberOf_56) (fun av M h => f2_X1_total_ok E h) (Or.inr (fun av M h => f2_X1_total_rc E h)),
    ok_iret C hr hl dX4_numberOf_59, trivial⟩

theorem mX3_numberOf_0 : Cond.fieldLink RX3 13 "Bloomclock$Crop" "growerNumber" "I" ∈ wsX3_numberOf := by decide +kernel
theorem hiX3_numberOf_4 : ∀ w ∈ u_ws RX3 TX3 7, w ∈ wsX3_numberOf := by decide +kernel
theorem mX3_numberOf_2 : Cond.fieldLink RX3 17 "Bloomclock$Crop" "cultivar" "I" ∈ wsX3_numberOf := by decide +kernel
theorem mX3_numberOf_3 : Cond.fieldLink RX3 20 "Bloomclock$Crop" "plants" "I" ∈ wsX3_numberOf := by decide +kernel
theorem mX3_numberOf_4 : Cond.fieldLink RX3 23 "Bloomclock$Crop" "sum" "I" ∈ wsX3_numberOf := by decide +kernel
theorem mX3_numberOf_5 : Cond.fieldLink RX3 26 "Bloomclock$Crop" "isReady" "Z" ∈ wsX3_numberOf := by decide +kernel
theorem mX3_numberOf_6 : Cond.fieldLink RX3 30 "Bloomclock$Crop" "age" "I" ∈ wsX3_numberOf := by decide +kernel
abbrev c2t_X3_numberOf (E : kx_E) (av : List Value) (M : kx_M) (k ks : Nat) (Q : kx_Q) : Prop := kx_CT E (kx_w2 E) yX3_numberOf wsX3_numberOf 0 0 av M k ks Q
def cd_X3_numberOf (E : kx_E) : List (Nat × kx_T) := [
  (0, t_il 1 1),
  (1, t_sw [(0, 36), (1, 41), (2, 46), (3, 51), (4, 56)] 69),
  (36, t_al 37 0),
  (37, t_gI 40 5 81),
  (40, t_iret),
  (41, t_al 42 0),
  (42, t_gI 45 5 82),
  (45, t_iret),
  (46, t_al 47 0),
  (47, t_gI 50 5 83),
  (50, t_iret),
  (51, t_al 52 0),
  (52, t_gI 55 5 84),
  (55, t_iret),
  (56, t_al 57 0),
  (57, t_gI 60 5 85),
  (60, t_if 63 67 (fun x => x = 0)),
  (63, t_push 64 (.int 1)),
  (64, t_go 68),
  (67, t_push 68 (.int 0)),
  (68, t_iret),
  (69, t_al 70 0),
  (70, t_gI 73 5 86),
  (73, t_iret)]
set_option maxRecDepth 4000 in
theorem en_X3_numberOf (E : kx_E) {av : List Value} {M : kx_M} {k ks : Nat} {Qr : kx_Q} (hlen : (lg_sl av).length ≤ 2) (h : ∀ G : kx_K, kx_all G Qr (cd_X3_numberOf E) → G k ks 0 (lv_args 0 av) [] M) : c2t_X3_numberOf E av M k ks Qr := by
  refine kx_enter (by decide) rfl hlen (own := RX3) rfl (cd := cd_X3_numberOf E) ?_ h
  intro p e s m below meth c C hr hl hnm
  exact ⟨ok_iload_n C dX3_numberOf_0 rfl,
    ok_tsw C dX3_numberOf_1 (by decide) (by decide +kernel) (by decide) (by decide) (by decide +kernel),
    ok_aload_n C dX3_numberOf_36 rfl,
    ok_gI C (ci := 4) (k := 1) (Cn := RX3) (T := TX3) (N := 7) (index := 13) (ref := "Bloomclock$Crop") (kx_w2_good E) rfl rfl (by decide) hiX3_numberOf_4 mX3_numberOf_0 (fun _ h9 => h9) rfl dX3_numberOf_37,
    ok_iret C hr hl dX3_numberOf_40,
    ok_aload_n C dX3_numberOf_41 rfl,
    ok_gI C (ci := 4) (k := 2) (Cn := RX3) (T := TX3) (N := 7) (index := 17) (ref := "Bloomclock$Crop") (kx_w2_good E) rfl rfl (by decide) hiX3_numberOf_4 mX3_numberOf_2 (fun _ h9 => h9) rfl dX3_numberOf_42,
    ok_iret C hr hl dX3_numberOf_45,
    ok_aload_n C dX3_numberOf_46 rfl,
    ok_gI C (ci := 4) (k := 3) (Cn := RX3) (T := TX3) (N := 7) (index := 20) (ref := "Bloomclock$Crop") (kx_w2_good E) rfl rfl (by decide) hiX3_numberOf_4 mX3_numberOf_3 (fun _ h9 => h9) rfl dX3_numberOf_47,
    ok_iret C hr hl dX3_numberOf_50,
    ok_aload_n C dX3_numberOf_51 rfl,
    ok_gI C (ci := 4) (k := 4) (Cn := RX3) (T := TX3) (N := 7) (index := 23) (ref := "Bloomclock$Crop") (kx_w2_good E) rfl rfl (by decide) hiX3_numberOf_4 mX3_numberOf_4 (fun _ h9 => h9) rfl dX3_numberOf_52,
    ok_iret C hr hl dX3_numberOf_55,
    ok_aload_n C dX3_numberOf_56 rfl,
    ok_gI C (ci := 4) (k := 5) (Cn := RX3) (T := TX3) (N := 7) (index := 26) (ref := "Bloomclock$Crop") (kx_w2_good E) rfl rfl (by decide) hiX3_numberOf_4 mX3_numberOf_5 (fun _ h9 => h9) rfl dX3_numberOf_57,
    ok_if_eq C dX3_numberOf_60 (by decide),
    ok_iconst C dX3_numberOf_63 (by decide),
    ok_goto C dX3_numberOf_64 (by decide),
    ok_iconst C dX3_numberOf_67 (by decide),
    ok_iret C hr hl dX3_numberOf_68,
    ok_aload_n C dX3_numberOf_69 rfl,
    ok_gI C (ci := 4) (k := 6) (Cn := RX3) (T := TX3) (N := 7) (index := 30) (ref := "Bloomclock$Crop") (kx_w2_good E) rfl rfl (by decide) hiX3_numberOf_4 mX3_numberOf_6 (fun _ h9 => h9) rfl dX3_numberOf_70,
    ok_iret C hr hl dX3_numberOf_73, trivial⟩

theorem mX5_numberOf_0 : Cond.fieldLink RX5 37 "Bloomclock$Lot" "growerNumber" "I" ∈ wsX5_numberOf := by decide +kernel
theorem hiX5_numberOf_6 : ∀ w ∈ u_ws RX5 TX5 12, w ∈ wsX5_numberOf := by decide +kernel
theorem mX5_numberOf_2 : Cond.fieldLink RX5 41 "Bloomclock$Lot" "cultivar" "I" ∈ wsX5_numberOf := by decide +kernel
theorem mX5_numberOf_3 : Cond.fieldLink RX5 48 "Bloomclock$Lot" "stems" "I" ∈ wsX5_numberOf := by decide +kernel
theorem mX5_numberOf_4 : Cond.fieldLink RX5 45 "Bloomclock$Lot" "grade" "I" ∈ wsX5_numberOf := by decide +kernel
theorem mX5_numberOf_5 : Cond.fieldLink RX5 61 "Bloomclock$Lot" "life" "I" ∈ wsX5_numberOf := by decide +kernel
theorem mX5_numberOf_6 : Cond.fieldLink RX5 64 "Bloomclock$Lot" "buckets" "I" ∈ wsX5_numberOf := by decide +kernel
theorem mX5_numberOf_7 : Cond.fieldLink RX5 9 "Bloomclock$Lot" "place" "I" ∈ wsX5_numberOf := by decide +kernel
theorem mX5_numberOf_8 : Cond.fieldLink RX5 15 "Bloomclock$Lot" "state" "I" ∈ wsX5_numberOf := by decide +kernel
theorem mX5_numberOf_9 : Cond.fieldLink RX5 18 "Bloomclock$Lot" "told" "I" ∈ wsX5_numberOf := by decide +kernel
theorem mX5_numberOf_10 : Cond.fieldLink RX5 21 "Bloomclock$Lot" "minimum" "I" ∈ wsX5_numberOf := by decide +kernel
abbrev c2t_X5_numberOf (E : kx_E) (av : List Value) (M : kx_M) (k ks : Nat) (Q : kx_Q) : Prop := kx_CT E (kx_w2 E) yX5_numberOf wsX5_numberOf 0 0 av M k ks Q
def cd_X5_numberOf (E : kx_E) : List (Nat × kx_T) := [
  (0, t_il 1 1),
  (1, t_sw [(0, 52), (1, 57), (2, 62), (3, 67), (4, 72), (5, 77), (6, 82), (7, 87), (8, 92)] 97),
  (52, t_al 53 0),
  (53, t_gI 56 7 122),
  (56, t_iret),
  (57, t_al 58 0),
  (58, t_gI 61 7 123),
  (61, t_iret),
  (62, t_al 63 0),
  (63, t_gI 66 7 125),
  (66, t_iret),
  (67, t_al 68 0),
  (68, t_gI 71 7 124),
  (71, t_iret),
  (72, t_al 73 0),
  (73, t_gI 76 7 126),
  (76, t_iret),
  (77, t_al 78 0),
  (78, t_gI 81 7 127),
  (81, t_iret),
  (82, t_al 83 0),
  (83, t_gI 86 7 128),
  (86, t_iret),
  (87, t_al 88 0),
  (88, t_gI 91 7 129),
  (91, t_iret),
  (92, t_al 93 0),
  (93, t_gI 96 7 130),
  (96, t_iret),
  (97, t_al 98 0),
  (98, t_gI 101 7 131),
  (101, t_iret)]
set_option maxRecDepth 4000 in
theorem en_X5_numberOf (E : kx_E) {av : List Value} {M : kx_M} {k ks : Nat} {Qr : kx_Q} (hlen : (lg_sl av).length ≤ 2) (h : ∀ G : kx_K, kx_all G Qr (cd_X5_numberOf E) → G k ks 0 (lv_args 0 av) [] M) : c2t_X5_numberOf E av M k ks Qr := by
  refine kx_enter (by decide) rfl hlen (own := RX5) rfl (cd := cd_X5_numberOf E) ?_ h
  intro p e s m below meth c C hr hl hnm
  exact ⟨ok_iload_n C dX5_numberOf_0 rfl,
    ok_tsw C dX5_numberOf_1 (by decide) (by decide +kernel) (by decide) (by decide) (by decide +kernel),
    ok_aload_n C dX5_numberOf_52 rfl,
    ok_gI C (ci := 6) (k := 2) (Cn := RX5) (T := TX5) (N := 12) (index := 37) (ref := "Bloomclock$Lot") (kx_w2_good E) rfl rfl (by decide) hiX5_numberOf_6 mX5_numberOf_0 (fun _ h9 => h9) rfl dX5_numberOf_53,
    ok_iret C hr hl dX5_numberOf_56,
    ok_aload_n C dX5_numberOf_57 rfl,
    ok_gI C (ci := 6) (k := 3) (Cn := RX5) (T := TX5) (N := 12) (index := 41) (ref := "Bloomclock$Lot") (kx_w2_good E) rfl rfl (by decide) hiX5_numberOf_6 mX5_numberOf_2 (fun _ h9 => h9) rfl dX5_numberOf_58,
    ok_iret C hr hl dX5_numberOf_61,
    ok_aload_n C dX5_numberOf_62 rfl,
    ok_gI C (ci := 6) (k := 5) (Cn := RX5) (T := TX5) (N := 12) (index := 48) (ref := "Bloomclock$Lot") (kx_w2_good E) rfl rfl (by decide) hiX5_numberOf_6 mX5_numberOf_3 (fun _ h9 => h9) rfl dX5_numberOf_63,
    ok_iret C hr hl dX5_numberOf_66,
    ok_aload_n C dX5_numberOf_67 rfl,
    ok_gI C (ci := 6) (k := 4) (Cn := RX5) (T := TX5) (N := 12) (index := 45) (ref := "Bloomclock$Lot") (kx_w2_good E) rfl rfl (by decide) hiX5_numberOf_6 mX5_numberOf_4 (fun _ h9 => h9) rfl dX5_numberOf_68,
    ok_iret C hr hl dX5_numberOf_71,
    ok_aload_n C dX5_numberOf_72 rfl,
    ok_gI C (ci := 6) (k := 6) (Cn := RX5) (T := TX5) (N := 12) (index := 61) (ref := "Bloomclock$Lot") (kx_w2_good E) rfl rfl (by decide) hiX5_numberOf_6 mX5_numberOf_5 (fun _ h9 => h9) rfl dX5_numberOf_73,
    ok_iret C hr hl dX5_numberOf_76,
    ok_aload_n C dX5_numberOf_77 rfl,
    ok_gI C (ci := 6) (k := 7) (Cn := RX5) (T := TX5) (N := 12) (index := 64) (ref := "Bloomclock$Lot") (kx_w2_good E) rfl rfl (by decide) hiX5_numberOf_6 mX5_numberOf_6 (fun _ h9 => h9) rfl dX5_numberOf_78,
    ok_iret C hr hl dX5_numberOf_81,
    ok_aload_n C dX5_numberOf_82 rfl,
    ok_gI C (ci := 6) (k := 8) (Cn := RX5) (T := TX5) (N := 12) (index := 9) (ref := "Bloomclock$Lot") (kx_w2_good E) rfl rfl (by decide) hiX5_numberOf_6 mX5_numberOf_7 (fun _ h9 => h9) rfl dX5_numberOf_83,
    ok_iret C hr hl dX5_numberOf_86,
    ok_aload_n C dX5_numberOf_87 rfl,
    ok_gI C (ci := 6) (k := 9) (Cn := RX5) (T := TX5) (N := 12) (index := 15) (ref := "Bloomclock$Lot") (kx_w2_good E) rfl rfl (by decide) hiX5_numberOf_6 mX5_numberOf_8 (fun _ h9 => h9) rfl dX5_numberOf_88,
    ok_iret C hr hl dX5_numberOf_91,
    ok_aload_n C dX5_numberOf_92 rfl,
    ok_gI C (ci := 6) (k := 10) (Cn := RX5) (T := TX5) (N := 12) (index := 18) (ref := "Bloomclock$Lot") (kx_w2_good E) rfl rfl (by decide) hiX5_numberOf_6 mX5_numberOf_9 (fun _ h9 => h9) rfl dX5_numberOf_93,
    ok_iret C hr hl dX5_numberOf_96,
    ok_aload_n C dX5_numberOf_97 rfl,
    ok_gI C (ci := 6) (k := 11) (Cn := RX5) (T := TX5) (N := 12) (index := 21) (ref := "Bloomclock$Lot") (kx_w2_good E) rfl rfl (by decide) hiX5_numberOf_6 mX5_numberOf_10 (fun _ h9 => h9) rfl dX5_numberOf_98,
    ok_iret C hr hl dX5_numberOf_101, trivial⟩

theorem mX7_numberOf_0 : Cond.fieldLink RX7 7 "Bloomclock$Sale" "lot" "LBloomclock$Lot;" ∈ wsX7_numberOf := by decide +kernel
theorem hiX7_numberOf_8 : ∀ w ∈ u_ws RX7 TX7 7, w ∈ wsX7_numberOf := by decide +kernel
theorem mX7_numberOf_2 : Cond.fieldLink RX7 34 "Bloomclock$Lot" "number" "I" ∈ wsX7_numberOf := by decide +kernel
theorem hiX7_numberOf_6 : ∀ w ∈ u_ws RX5 TX5 12, w ∈ wsX7_numberOf := by decide +kernel
theorem mX7_numberOf_4 : Cond.fieldLink RX7 13 "Bloomclock$Sale" "buyer" "LBloomclock$Buyer;" ∈ wsX7_numberOf := by decide +kernel
theorem mX7_numberOf_5 : Cond.fieldLink RX7 39 "Bloomclock$Buyer" "number" "I" ∈ wsX7_numberOf := by decide +kernel
theorem hiX7_numberOf_1 : ∀ w ∈ u_ws RX0 TX0 11, w ∈ wsX7_numberOf := by decide +kernel
theorem mX7_numberOf_7 : Cond.fieldLink RX7 21 "Bloomclock$Sale" "stems" "I" ∈ wsX7_numberOf := by decide +kernel
theorem mX7_numberOf_8 : Cond.fieldLink RX7 25 "Bloomclock$Sale" "price" "I" ∈ wsX7_numberOf := by decide +kernel
theorem mX7_numberOf_9 : Cond.fieldLink RX7 28 "Bloomclock$Sale" "hour" "I" ∈ wsX7_numberOf := by decide +kernel
abbrev c2t_X7_numberOf (E : kx_E) (av : List Value) (M : kx_M) (k ks : Nat) (Q : kx_Q) : Prop := kx_CT E (kx_w2 E) yX7_numberOf wsX7_numberOf 0 0 av M k ks Q
def cd_X7_numberOf (E : kx_E) : List (Nat × kx_T) := [
  (0, t_il 1 1),
  (1, t_sw [(0, 32), (1, 40), (2, 48), (3, 53)] 58),
  (32, t_al 33 0),
  (33, t_gR 36 9 160),
  (36, t_gI 39 7 120),
  (39, t_iret),
  (40, t_al 41 0),
  (41, t_gR 44 9 161),
  (44, t_gI 47 2 20),
  (47, t_iret),
  (48, t_al 49 0),
  (49, t_gI 52 9 163),
  (52, t_iret),
  (53, t_al 54 0),
  (54, t_gI 57 9 164),
  (57, t_iret),
  (58, t_al 59 0),
  (59, t_gI 62 9 165),
  (62, t_iret)]
set_option maxRecDepth 4000 in
theorem en_X7_numberOf (E : kx_E) {av : List Value} {M : kx_M} {k ks : Nat} {Qr : kx_Q} (hlen : (lg_sl av).length ≤ 2) (h : ∀ G : kx_K, kx_all G Qr (cd_X7_numberOf E) → G k ks 0 (lv_args 0 av) [] M) : c2t_X7_numberOf E av M k ks Qr := by
  refine kx_enter (by decide) rfl hlen (own := RX7) rfl (cd := cd_X7_numberOf E) ?_ h
  intro p e s m below meth c C hr hl hnm
  exact ⟨ok_iload_n C dX7_numberOf_0 rfl,
    ok_tsw C dX7_numberOf_1 (by decide) (by decide +kernel) (by decide) (by decide) (by decide +kernel),
    ok_aload_n C dX7_numberOf_32 rfl,
    ok_gR C (ci := 8) (k := 0) (Cn := RX7) (T := TX7) (N := 7) (index := 7) (ref := "Bloomclock$Sale") (kx_w2_good E) rfl rfl (by decide) hiX7_numberOf_8 mX7_numberOf_0 (fun _ h9 => h9) rfl dX7_numberOf_33,
    ok_gI C (ci := 6) (k := 0) (Cn := RX5) (T := TX5) (N := 12) (index := 34) (ref := "Bloomclock$Lot") (kx_w2_good E) rfl rfl (by decide) hiX7_numberOf_6 mX7_numberOf_2 (fun _ h9 => h9) rfl dX7_numberOf_36,
    ok_iret C hr hl dX7_numberOf_39,
    ok_aload_n C dX7_numberOf_40 rfl,
    ok_gR C (ci := 8) (k := 1) (Cn := RX7) (T := TX7) (N := 7) (index := 13) (ref := "Bloomclock$Sale") (kx_w2_good E) rfl rfl (by decide) hiX7_numberOf_8 mX7_numberOf_4 (fun _ h9 => h9) rfl dX7_numberOf_41,
    ok_gI C (ci := 1) (k := 0) (Cn := RX0) (T := TX0) (N := 11) (index := 39) (ref := "Bloomclock$Buyer") (kx_w2_good E) rfl rfl (by decide) hiX7_numberOf_1 mX7_numberOf_5 (fun _ h9 => h9) rfl dX7_numberOf_44,
    ok_iret C hr hl dX7_numberOf_47,
    ok_aload_n C dX7_numberOf_48 rfl,
    ok_gI C (ci := 8) (k := 3) (Cn := RX7) (T := TX7) (N := 7) (index := 21) (ref := "Bloomclock$Sale") (kx_w2_good E) rfl rfl (by decide) hiX7_numberOf_8 mX7_numberOf_7 (fun _ h9 => h9) rfl dX7_numberOf_49,
    ok_iret C hr hl dX7_numberOf_52,
    ok_aload_n C dX7_numberOf_53 rfl,
    ok_gI C (ci := 8) (k := 4) (Cn := RX7) (T := TX7) (N := 7) (index := 25) (ref := "Bloomclock$Sale") (kx_w2_good E) rfl rfl (by decide) hiX7_numberOf_8 mX7_numberOf_8 (fun _ h9 => h9) rfl dX7_numberOf_54,
    ok_iret C hr hl dX7_numberOf_57,
    ok_aload_n C dX7_numberOf_58 rfl,
    ok_gI C (ci := 8) (k := 5) (Cn := RX7) (T := TX7) (N := 7) (index := 28) (ref := "Bloomclock$Sale") (kx_w2_good E) rfl rfl (by decide) hiX7_numberOf_8 mX7_numberOf_9 (fun _ h9 => h9) rfl dX7_numberOf_59,
    ok_iret C hr hl dX7_numberOf_62, trivial⟩

theorem mX2_stampOf_0 : Cond.fieldLink RX2 47 "Bloomclock$ClockRun" "start" "I" ∈ wsX2_stampOf := by decide +kernel
theorem hiX2_stampOf_3 : ∀ w ∈ u_ws RX2 TX2 10, w ∈ wsX2_stampOf := by decide +kernel
theorem mX2_stampOf_2 : Cond.fieldLink RX2 135 "Bloomclock$Order" "limit" "I" ∈ wsX2_stampOf := by decide +kernel
theorem hiX2_stampOf_7 : ∀ w ∈ u_ws RX6 TX6 8, w ∈ wsX2_stampOf := by decide +kernel
theorem mX2_stampOf_4 : Cond.fieldLink RX2 112 "Bloomclock$Order" "buyer" "LBloomclock$Buyer;" ∈ wsX2_stampOf := by decide +kernel
theorem mX2_stampOf_5 : Cond.fieldLink RX2 89 "Bloomclock$Buyer" "late" "I" ∈ wsX2_stampOf := by decide +kernel
theorem hiX2_stampOf_1 : ∀ w ∈ u_ws RX0 TX0 11, w ∈ wsX2_stampOf := by decide +kernel
abbrev c2t_X2_stampOf (E : kx_E) (av : List Value) (M : kx_M) (k ks : Nat) (Q : kx_Q) : Prop := kx_CT E (kx_w2 E) yX2_stampOf wsX2_stampOf 0 0 av M k ks Q
def cd_X2_stampOf (E : kx_E) : List (Nat × kx_T) := [
  (0, t_al 1 0),
  (1, t_gI 4 4 65),
  (4, t_al 5 1),
  (5, t_gI 8 8 145),
  (8, t_bin 9 (fun x y => x - y)),
  (9, t_al 10 1),
  (10, t_gR 13 8 140),
  (13, t_gI 16 2 29),
  (16, t_bin 17 (fun x y => x + y)),
  (17, t_iret)]
set_option maxRecDepth 4000 in
theorem en_X2_stampOf (E : kx_E) {av : List Value} {M : kx_M} {k ks : Nat} {Qr : kx_Q} (hlen : (lg_sl av).length ≤ 2) (h : ∀ G : kx_K, kx_all G Qr (cd_X2_stampOf E) → G k ks 0 (lv_args 0 av) [] M) : c2t_X2_stampOf E av M k ks Qr := by
  refine kx_enter (by decide) rfl hlen (own := RX2) rfl (cd := cd_X2_stampOf E) ?_ h
  intro p e s m below meth c C hr hl hnm
  exact ⟨ok_aload_n C dX2_stampOf_0 rfl,
    ok_gI C (ci := 3) (k := 5) (Cn := RX2) (T := TX2) (N := 10) (index := 47) (ref := "Bloomclock$ClockRun") (kx_w2_good E) rfl rfl (by decide) hiX2_stampOf_3 mX2_stampOf_0 (fun _ h9 => h9) rfl dX2_stampOf_1,
    ok_aload_n C dX2_stampOf_4 rfl,
    ok_gI C (ci := 7) (k := 5) (Cn := RX6) (T := TX6) (N := 8) (index := 135) (ref := "Bloomclock$Order") (kx_w2_good E) rfl rfl (by decide) hiX2_stampOf_7 mX2_stampOf_2 (fun _ h9 => h9) rfl dX2_stampOf_5,
    ok_isub C dX2_stampOf_8,
    ok_aload_n C dX2_stampOf_9 rfl,
    ok_gR C (ci := 7) (k := 0) (Cn := RX6) (T := TX6) (N := 8) (index := 112) (ref := "Bloomclock$Order") (kx_w2_good E) rfl rfl (by decide) hiX2_stampOf_7 mX2_stampOf_4 (fun _ h9 => h9) rfl dX2_stampOf_10,
    ok_gI C (ci := 1) (k := 9) (Cn := RX0) (T := TX0) (N := 11) (index := 89) (ref := "Bloomclock$Buyer") (kx_w2_good E) rfl rfl (by decide) hiX2_stampOf_1 mX2_stampOf_5 (fun _ h9 => h9) rfl dX2_stampOf_13,
    ok_iadd C dX2_stampOf_16,
    ok_iret C hr hl dX2_stampOf_17, trivial⟩

theorem mX2_fits_0 : Cond.fieldLink RX2 101 "Bloomclock$Order" "open" "I" ∈ wsX2_fits := by decide +kernel
theorem hiX2_fits_7 : ∀ w ∈ u_ws RX6 TX6 8, w ∈ wsX2_fits := by decide +kernel
theorem mX2_fits_2 : Cond.fieldLink RX2 112 "Bloomclock$Order" "buyer" "LBloomclock$Buyer;" ∈ wsX2_fits := by decide +kernel
theorem mX2_fits_3 : Cond.fieldLink RX2 92 "Bloomclock$Buyer" "isOut" "Z" ∈ wsX2_fits := by decide +kernel
theorem hiX2_fits_1 : ∀ w ∈ u_ws RX0 TX0 11, w ∈ wsX2_fits := by decide +kernel
theorem mX2_fits_5 : Cond.fieldLink RX2 128 "Bloomclock$Order" "cultivar" "I" ∈ wsX2_fits := by decide +kernel
theorem mX2_fits_6 : Cond.fieldLink RX2 15 "Bloomclock$ClockRun" "cultivar" "I" ∈ wsX2_fits := by decide +kernel
theorem hiX2_fits_3 : ∀ w ∈ u_ws RX2 TX2 10, w ∈ wsX2_fits := by decide +kernel
theorem mX2_fits_8 : Cond.fieldLink RX2 129 "Bloomclock$Order" "grade" "I" ∈ wsX2_fits := by decide +kernel
theorem mX2_fits_9 : Cond.fieldLink RX2 21 "Bloomclock$ClockRun" "grade" "I" ∈ wsX2_fits := by decide +kernel
theorem mX2_fits_10 : Cond.fieldLink RX2 130 "Bloomclock$Order" "shown" "I" ∈ wsX2_fits := by decide +kernel
theorem mX2_fits_11 : Cond.fieldLink RX2 31 "Bloomclock$ClockRun" "shown" "I" ∈ wsX2_fits := by decide +kernel
theorem mX2_fits_12 : Cond.fieldLink RX2 131 "Bloomclock$Order" "mark" "I" ∈ wsX2_fits := by decide +kernel
theorem mX2_fits_13 : Cond.fieldLink RX2 43 "Bloomclock$ClockRun" "mark" "I" ∈ wsX2_fits := by decide +kernel
abbrev c2t_X2_fits (E : kx_E) (av : List Value) (M : kx_M) (k ks : Nat) (Q : kx_Q) : Prop := kx_CT E (kx_w2 E) yX2_fits wsX2_fits 0 0 av M k ks Q
def cd_X2_fits (E : kx_E) : List (Nat × kx_T) := [
  (0, t_al 1 1),
  (1, t_gI 4 8 147),
  (4, t_if 7 65 (fun x => x ≤ 0)),
  (7, t_al 8 1),
  (8, t_gR 11 8 140),
  (11, t_gI 14 2 30),
  (14, t_if 17 65 (fun x => x ≠ 0)),
  (17, t_al 18 1),
  (18, t_gI 21 8 141),
  (21, t_al 22 0),
  (22, t_gI 25 4 60),
  (25, t_ic 28 65 (fun x y => x ≠ y)),
  (28, t_al 29 1),
  (29, t_gI 32 8 142),
  (32, t_al 33 0),
  (33, t_gI 36 4 61),
  (36, t_ic 39 65 (fun x y => x < y)),
  (39, t_al 40 1),
  (40, t_gI 43 8 143),
  (43, t_al 44 0),
  (44, t_gI 47 4 62),
  (47, t_ic 50 65 (fun x y => y < x)),
  (50, t_al 51 1),
  (51, t_gI 54 8 144),
  (54, t_al 55 0),
  (55, t_gI 58 4 63),
  (58, t_ic 61 65 (fun x y => y < x)),
  (61, t_push 62 (.int 1)),
  (62, t_go 66),
  (65, t_push 66 (.int 0)),
  (66, t_zret)]
set_option maxRecDepth 4000 in
theorem en_X2_fits (E : kx_E) {av : List Value} {M : kx_M} {k ks : Nat} {Qr : kx_Q} (hlen : (lg_sl av).length ≤ 2) (h : ∀ G : kx_K, kx_all G Qr (cd_X2_fits E) → G k ks 0 (lv_args 0 av) [] M) : c2t_X2_fits E av M k ks Qr := by
  refine kx_enter (by decide) rfl hlen (own := RX2) rfl (cd := cd_X2_fits E) ?_ h
  intro p e s m below meth c C hr hl hnm
  exact ⟨ok_aload_n C dX2_fits_0 rfl,
    ok_gI C (ci := 7) (k := 7) (Cn := RX6) (T := TX6) (N := 8) (index := 101) (ref := "Bloomclock$Order") (kx_w2_good E) rfl rfl (by decide) hiX2_fits_7 mX2_fits_0 (fun _ h9 => h9) rfl dX2_fits_1,
    ok_if_le C dX2_fits_4 (by decide),
    ok_aload_n C dX2_fits_7 rfl,
    ok_gR C (ci := 7) (k := 0) (Cn := RX6) (T := TX6) (N := 8) (index := 112) (ref := "Bloomclock$Order") (kx_w2_good E) rfl rfl (by decide) hiX2_fits_7 mX2_fits_2 (fun _ h9 => h9) rfl dX2_fits_8,
    ok_gI C (ci := 1) (k := 10) (Cn := RX0) (T := TX0) (N := 11) (index := 92) (ref := "Bloomclock$Buyer") (kx_w2_good E) rfl rfl (by decide) hiX2_fits_1 mX2_fits_3 (fun _ h9 => h9) rfl dX2_fits_11,
    ok_if_ne C dX2_fits_14 (by decide),
    ok_aload_n C dX2_fits_17 rfl,
    ok_gI C (ci := 7) (k := 1) (Cn := RX6) (T := TX6) (N := 8) (index := 128) (ref := "Bloomclock$Order") (kx_w2_good E) rfl rfl (by decide) hiX2_fits_7 mX2_fits_5 (fun _ h9 => h9) rfl dX2_fits_18,
    ok_aload_n C dX2_fits_21 rfl,
    ok_gI C (ci := 3) (k := 0) (Cn := RX2) (T := TX2) (N := 10) (index := 15) (ref := "Bloomclock$ClockRun") (kx_w2_good E) rfl rfl (by decide) hiX2_fits_3 mX2_fits_6 (fun _ h9 => h9) rfl dX2_fits_22,
    ok_ic_ne C dX2_fits_25 (by decide),
    ok_aload_n C dX2_fits_28 rfl,
    ok_gI C (ci := 7) (k := 2) (Cn := RX6) (T := TX6) (N := 8) (index := 129) (ref := "Bloomclock$Order") (kx_w2_good E) rfl rfl (by decide) hiX2_fits_7 mX2_fits_8 (fun _ h9 => h9) rfl dX2_fits_29,
    ok_aload_n C dX2_fits_32 rfl,
    ok_gI C (ci := 3) (k := 1) (Cn := RX2) (T := TX2) (N := 10) (index := 21) (ref := "Bloomclock$ClockRun") (kx_w2_good E) rfl rfl (by decide) hiX2_fits_3 mX2_fits_9 (fun _ h9 => h9) rfl dX2_fits_33,
    ok_ic_lt C dX2_fits_36 (by decide),
    ok_aload_n C dX2_fits_39 rfl,
    ok_gI C (ci := 7) (k := 3) (Cn := RX6) (T := TX6) (N := 8) (index := 130) (ref := "Bloomclock$Order") (kx_w2_good E) rfl rfl (by decide) hiX2_fits_7 mX2_fits_10 (fun _ h9 => h9) rfl dX2_fits_40,
    ok_aload_n C dX2_fits_43 rfl,
    ok_gI C (ci := 3) (k := 2) (Cn := RX2) (T := TX2) (N := 10) (index := 31) (ref := "Bloomclock$ClockRun") (kx_w2_good E) rfl rfl (by decide) hiX2_fits_3 mX2_fits_11 (fun _ h9 => h9) rfl dX2_fits_44,
    ok_ic_gt C dX2_fits_47 (by decide),
    ok_aload_n C dX2_fits_50 rfl,
    ok_gI C (ci := 7) (k := 4) (Cn := RX6) (T := TX6) (N := 8) (index := 131) (ref := "Bloomclock$Order") (kx_w2_good E) rfl rfl (by decide) hiX2_fits_7 mX2_fits_12 (fun _ h9 => h9) rfl dX2_fits_51,
    ok_aload_n C dX2_fits_54 rfl,
    ok_gI C (ci := 3) (k := 3) (Cn := RX2) (T := TX2) (N := 10) (index := 43) (ref := "Bloomclock$ClockRun") (kx_w2_good E) rfl rfl (by decide) hiX2_fits_3 mX2_fits_13 (fun _ h9 => h9) rfl dX2_fits_55,
    ok_ic_gt C dX2_fits_58 (by decide),
    ok_iconst C dX2_fits_61 (by decide),
    ok_goto C dX2_fits_62 (by decide),
    ok_iconst C dX2_fits_65 (by decide),
    ok_zret C hr hl dX2_fits_66, trivial⟩

theorem mX2_init_0 : Cond.methodLink RX2 3 objectInit ∈ wsX2_init := by decide +kernel
theorem mX2_init_1 : Cond.instanceMethod objectInit ∈ wsX2_init := by decide +kernel
theorem mX2_init_2 : Cond.code objectInit ⟨#[0xb1]⟩ 1 none ∈ wsX2_init := by decide +kernel
abbrev c2t_X2_init (E : kx_E) (av : List Value) (M : kx_M) (k ks : Nat) (Q : kx_Q) : Prop := kx_CT E (kx_w2 E) yX2_init wsX2_init 1 12 av M k ks Q
def cd_X2_init (E : kx_E) : List (Nat × kx_T) := [
  (0, t_al 1 0),
  (1, t_oin 4),
  (4, t_vret)]
set_option maxRecDepth 4000 in
theorem en_X2_init (E : kx_E) {av : List Value} {M : kx_M} {k ks : Nat} {Qr : kx_Q} (hlen : (lg_sl av).length ≤ 1) (h : ∀ G : kx_K, kx_all G Qr (cd_X2_init E) → G k ks 0 (lv_args 0 av) [] M) : c2t_X2_init E av M k ks Qr := by
  refine kx_enter (by decide) rfl hlen (own := RX2) rfl (cd := cd_X2_init E) ?_ h
  intro p e s m below meth c C hr hl hnm
  exact ⟨ok_aload_n C dX2_init_0 rfl,
    ok_oin C mX2_init_0 mX2_init_1 mX2_init_2 ⟨Nat.le_of_ble_eq_true rfl, Nat.le_of_ble_eq_true rfl⟩ dX2_init_1,
    ok_vret C hr hl dX2_init_4, trivial⟩

theorem mX0_init_0 : Cond.methodLink RX0 3 objectInit ∈ wsX0_init := by decide +kernel
theorem mX0_init_1 : Cond.instanceMethod objectInit ∈ wsX0_init := by decide +kernel
theorem mX0_init_2 : Cond.code objectInit ⟨#[0xb1]⟩ 1 none ∈ wsX0_init := by decide +kernel
theorem hiX0_init_2 : ∀ w ∈ u_ws RX1 TX1 1, w ∈ wsX0_init := by decide +kernel
theorem mX0_init_4 : Cond.classLink RX0 9 RX1 ∈ wsX0_init := by decide +kernel
theorem mX0_init_5 : Cond.instantiable RX1 1 ∈ wsX0_init := by decide +kernel
theorem mX0_init_6 : Cond.initialized RX1 ∈ wsX0_init := by decide +kernel
theorem mX0_init_7 : Cond.methodLink RX0 11 yX1_init ∈ wsX0_init := by decide +kernel
theorem mX0_init_8 : Cond.instanceMethod yX1_init ∈ wsX0_init := by decide +kernel
theorem mX0_init_9 : Cond.fieldLink RX0 14 "Bloomclock$Buyer" "stock" "LBloomclock$ByCultivar;" ∈ wsX0_init := by decide +kernel
theorem hiX0_init_1 : ∀ w ∈ u_ws RX0 TX0 11, w ∈ wsX0_init := by decide +kernel
theorem mX0_init_11 : Cond.fieldLink RX0 20 "Bloomclock$Buyer" "coins" "I" ∈ wsX0_init := by decide +kernel
theorem mX0_init_12 : Cond.fieldLink RX0 24 "Bloomclock$Buyer" "leavingHour" "I" ∈ wsX0_init := by decide +kernel
theorem mX0_init_13 : Cond.fieldLink RX0 27 "Bloomclock$Buyer" "number" "I" ∈ wsX0_init := by decide +kernel
theorem mX0_init_14 : Cond.fieldLink RX0 30 "Bloomclock$Buyer" "latency" "I" ∈ wsX0_init := by decide +kernel
abbrev c2t_X0_init (E : kx_E) (av : List Value) (M : kx_M) (k ks : Nat) (Q : kx_Q) : Prop := kx_CT E (kx_w2 E) yX0_init wsX0_init 2 33 av M k ks Q
def cd_X0_init (E : kx_E) : List (Nat × kx_T) := [
  (0, t_al 1 0),
  (1, t_oin 4),
  (4, t_al 5 0),
  (5, t_new 8 13 1),
  (8, t_dup 9),
  (9, t_push 10 (.int 0)),
  (10, t_fun (f2_X1_init E) 1 3 13 2),
  (13, t_pR 16 2 22),
  (16, t_al 17 0),
  (17, t_push 20 (.int 2000)),
  (20, t_pI 23 2 23),
  (23, t_al 24 0),
  (24, t_push 25 (.int (-1))),
  (25, t_pI 28 2 25),
  (28, t_al 29 0),
  (29, t_il 30 1),
  (30, t_pI 33 2 20),
  (33, t_al 34 0),
  (34, t_il 35 2),
  (35, t_pI 38 2 21),
  (38, t_vret)]
set_option maxRecDepth 4000 in
theorem en_X0_init (E : kx_E) {av : List Value} {M : kx_M} {k ks : Nat} {Qr : kx_Q} (hlen : (lg_sl av).length ≤ 3) (h : ∀ G : kx_K, kx_all G Qr (cd_X0_init E) → G k ks 0 (lv_args 0 av) [] M) : c2t_X0_init E av M k ks Qr := by
  refine kx_enter (by decide) rfl hlen (own := RX0) rfl (cd := cd_X0_init E) ?_ h
  intro p e s m below meth c C hr hl hnm
  exact ⟨ok_aload_n C dX0_init_0 rfl,
    ok_oin C mX0_init_0 mX0_init_1 mX0_init_2 ⟨Nat.le_of_ble_eq_true rfl, Nat.le_of_ble_eq_true rfl⟩ dX0_init_1,
    ok_aload_n C dX0_init_4 rfl,
    ok_new C (ci := 2) (Cn := RX1) (T := TX1) (N := 1) (index := 9) (kx_w2_good E) rfl hiX0_init_2 mX0_init_4 mX0_init_5 mX0_init_6 tyX1 tyX1_ok (by decide +kernel) dX0_init_5,
    ok_dup C dX0_init_8,
    ok_iconst C dX0_init_9 (by decide),
    ok_fun (ok_callI C (n := 1) (kv := 13) (by decide) gX0_init_X1_init rfl mX0_init_6 mX0_init_7 mX0_init_8 rfl (by decide +kernel) ⟨Nat.le_of_ble_eq_true rfl, Nat.le_of_ble_eq_true rfl⟩ dX0_init_10) (fun av M h => f2_X1_init_ok E h) (Or.inr (fun av M h => f2_X1_init_rc E h)),
    ok_pRF C (ci := 1) (k := 2) (Cn := RX0) (T := TX0) (N := 11) (index := 14) (ref := "Bloomclock$Buyer") (kx_w2_good E) rfl rfl (by decide) hiX0_init_1 mX0_init_9 (fun _ h9 => h9) tyX0 tyX0_ok nmX0 rfl (ty := (.object "Bloomclock$ByCultivar")) (by decide +kernel) (fun o => by cases o <;> exact ⟨rfl, rfl⟩) rfl (hnm.trans rfl) rfl dX0_init_13,
    ok_aload_n C dX0_init_16 rfl,
    ok_sipush C dX0_init_17 (by decide),
    ok_pI C (ci := 1) (k := 3) (Cn := RX0) (T := TX0) (N := 11) (index := 20) (ref := "Bloomclock$Buyer") (kx_w2_good E) rfl rfl (by decide) hiX0_init_1 mX0_init_11 (fun _ h9 => h9) tyX0 tyX0_ok nmX0 rfl (by decide +kernel) rfl dX0_init_20,
    ok_aload_n C dX0_init_23 rfl,
    ok_iconst C dX0_init_24 (by decide),
    ok_pI C (ci := 1) (k := 5) (Cn := RX0) (T := TX0) (N := 11) (index := 24) (ref := "Bloomclock$Buyer") (kx_w2_good E) rfl rfl (by decide) hiX0_init_1 mX0_init_12 (fun _ h9 => h9) tyX0 tyX0_ok nmX0 rfl (by decide +kernel) rfl dX0_init_25,
    ok_aload_n C dX0_init_28 rfl,
    ok_iload_n C dX0_init_29 rfl,
    ok_pIF C (ci := 1) (k := 0) (Cn := RX0) (T := TX0) (N := 11) (index := 27) (ref := "Bloomclock$Buyer") (kx_w2_good E) rfl rfl (by decide) hiX0_init_1 mX0_init_13 (fun _ h9 => h9) tyX0 tyX0_ok nmX0 rfl (by decide +kernel) rfl (hnm.trans rfl) rfl dX0_init_30,
    ok_aload_n C dX0_init_33 rfl,
    ok_iload_n C dX0_init_34 rfl,
    ok_pIF C (ci := 1) (k := 1) (Cn := RX0) (T := TX0) (N := 11) (index := 30) (ref := "Bloomclock$Buyer") (kx_w2_good E) rfl rfl (by decide) hiX0_init_1 mX0_init_14 (fun _ h9 => h9) tyX0 tyX0_ok nmX0 rfl (by decide +kernel) rfl (hnm.trans rfl) rfl dX0_init_35,
    ok_vret C hr hl dX0_init_38, trivial⟩

theorem mX4_init_0 : Cond.methodLink RX4 1 objectInit ∈ wsX4_init := by decide +kernel
theorem mX4_init_1 : Cond.instanceMethod objectInit ∈ wsX4_init := by decide +kernel
theorem mX4_init_2 : Cond.code objectInit ⟨#[0xb1]⟩ 1 none ∈ wsX4_init := by decide +kernel
theorem hiX4_init_2 : ∀ w ∈ u_ws RX1 TX1 1, w ∈ wsX4_init := by decide +kernel
theorem mX4_init_4 : Cond.classLink RX4 7 RX1 ∈ wsX4_init := by decide +kernel
theorem mX4_init_5 : Cond.instantiable RX1 1 ∈ wsX4_init := by decide +kernel
theorem mX4_init_6 : Cond.initialized RX1 ∈ wsX4_init := by decide +kernel
theorem mX4_init_7 : Cond.methodLink RX4 9 yX1_init ∈ wsX4_init := by decide +kernel
theorem mX4_init_8 : Cond.instanceMethod yX1_init ∈ wsX4_init := by decide +kernel
theorem mX4_init_9 : Cond.fieldLink RX4 12 "Bloomclock$Grower" "broughtToday" "LBloomclock$ByCultivar;" ∈ wsX4_init := by decide +kernel
theorem hiX4_init_5 : ∀ w ∈ u_ws RX4 TX4 5, w ∈ wsX4_init := by decide +kernel
theorem mX4_init_11 : Cond.fieldLink RX4 18 "Bloomclock$Grower" "coins" "I" ∈ wsX4_init := by decide +kernel
theorem mX4_init_12 : Cond.fieldLink RX4 22 "Bloomclock$Grower" "mark" "I" ∈ wsX4_init := by decide +kernel
abbrev c2t_X4_init (E : kx_E) (av : List Value) (M : kx_M) (k ks : Nat) (Q : kx_Q) : Prop := kx_CT E (kx_w2 E) yX4_init wsX4_init 2 33 av M k ks Q
def cd_X4_init (E : kx_E) : List (Nat × kx_T) := [
  (0, t_al 1 0),
  (1, t_oin 4),
  (4, t_al 5 0),
  (5, t_new 8 13 1),
  (8, t_dup 9),
  (9, t_push 10 (.int 0)),
  (10, t_fun (f2_X1_init E) 1 3 13 2),
  (13, t_pR 16 6 100),
  (16, t_al 17 0),
  (17, t_push 19 (.int 100)),
  (19, t_pI 22 6 101),
  (22, t_al 23 0),
  (23, t_push 25 (.int 50)),
  (25, t_pI 28 6 103),
  (28, t_vret)]
set_option maxRecDepth 4000 in
theorem en_X4_init (E : kx_E) {av : List Value} {M : kx_M} {k ks : Nat} {Qr : kx_Q} (hlen : (lg_sl av).length ≤ 1) (h : ∀ G : kx_K, kx_all G Qr (cd_X4_init E) → G k ks 0 (lv_args 0 av) [] M) : c2t_X4_init E av M k ks Qr := by
  refine kx_enter (by decide) rfl hlen (own := RX4) rfl (cd := cd_X4_init E) ?_ h
  intro p e s m below meth c C hr hl hnm
  exact ⟨ok_aload_n C dX4_init_0 rfl,
    ok_oin C mX4_init_0 mX4_init_1 mX4_init_2 ⟨Nat.le_of_ble_eq_true rfl, Nat.le_of_ble_eq_true rfl⟩ dX4_init_1,
    ok_aload_n C dX4_init_4 rfl,
    ok_new C (ci := 2) (Cn := RX1) (T := TX1) (N := 1) (index := 7) (kx_w2_good E) rfl hiX4_init_2 mX4_init_4 mX4_init_5 mX4_init_6 tyX1 tyX1_ok (by decide +kernel) dX4_init_5,
    ok_dup C dX4_init_8,
    ok_iconst C dX4_init_9 (by decide),
    ok_fun (ok_callI C (n := 1) (kv := 13) (by decide) gX4_init_X1_init rfl mX4_init_6 mX4_init_7 mX4_init_8 rfl (by decide +kernel) ⟨Nat.le_of_ble_eq_true rfl, Nat.le_of_ble_eq_true rfl⟩ dX4_init_10) (fun av M h => f2_X1_init_ok E h) (Or.inr (fun av M h => f2_X1_init_rc E h)),
    ok_pRF C (ci := 5) (k := 0) (Cn := RX4) (T := TX4) (N := 5) (index := 12) (ref := "Bloomclock$Grower") (kx_w2_good E) rfl rfl (by decide) hiX4_init_5 mX4_init_9 (fun _ h9 => h9) tyX4 tyX4_ok nmX4 rfl (ty := (.object "Bloomclock$ByCultivar")) (by decide +kernel) (fun o => by cases o <;> exact ⟨rfl, rfl⟩) rfl (hnm.trans rfl) rfl dX4_init_13,
    ok_aload_n C dX4_init_16 rfl,
    ok_bipush C dX4_init_17 (by decide),
    ok_pI C (ci := 5) (k := 1) (Cn := RX4) (T := TX4) (N := 5) (index := 18) (ref := "Bloomclock$Grower") (kx_w2_good E) rfl rfl (by decide) hiX4_init_5 mX4_init_11 (fun _ h9 => h9) tyX4 tyX4_ok nmX4 rfl (by decide +kernel) rfl dX4_init_19,
    ok_aload_n C dX4_init_22 rfl,
    ok_bipush C dX4_init_23 (by decide),
    ok_pI C (ci := 5) (k := 3) (Cn := RX4) (T := TX4) (N := 5) (index := 22) (ref := "Bloomclock$Grower") (kx_w2_good E) rfl rfl (by decide) hiX4_init_5 mX4_init_12 (fun _ h9 => h9) tyX4 tyX4_ok nmX4 rfl (by decide +kernel) rfl dX4_init_25,
    ok_vret C hr hl dX4_init_28, trivial⟩

theorem mX3_init_0 : Cond.methodLink RX3 1 objectInit ∈ wsX3_init := by decide +kernel
theorem mX3_init_1 : Cond.instanceMethod objectInit ∈ wsX3_init := by decide +kernel
theorem mX3_init_2 : Cond.code objectInit ⟨#[0xb1]⟩ 1 none ∈ wsX3_init := by decide +kernel
theorem mX3_init_3 : Cond.fieldLink RX3 7 "Bloomclock$Crop" "grower" "LBloomclock$Grower;" ∈ wsX3_init := by decide +kernel
theorem hiX3_init_4 : ∀ w ∈ u_ws RX3 TX3 7, w ∈ wsX3_init := by decide +kernel
theorem mX3_init_5 : Cond.fieldLink RX3 13 "Bloomclock$Crop" "growerNumber" "I" ∈ wsX3_init := by decide +kernel
theorem mX3_init_6 : Cond.fieldLink RX3 17 "Bloomclock$Crop" "cultivar" "I" ∈ wsX3_init := by decide +kernel
theorem mX3_init_7 : Cond.fieldLink RX3 20 "Bloomclock$Crop" "plants" "I" ∈ wsX3_init := by decide +kernel
abbrev c2t_X3_init (E : kx_E) (av : List Value) (M : kx_M) (k ks : Nat) (Q : kx_Q) : Prop := kx_CT E (kx_w2 E) yX3_init wsX3_init 1 12 av M k ks Q
def cd_X3_init (E : kx_E) : List (Nat × kx_T) := [
  (0, t_al 1 0),
  (1, t_oin 4),
  (4, t_al 5 0),
  (5, t_al 6 1),
  (6, t_pR 9 5 80),
  (9, t_al 10 0),
  (10, t_il 11 2),
  (11, t_pI 14 5 81),
  (14, t_al 15 0),
  (15, t_il 16 3),
  (16, t_pI 19 5 82),
  (19, t_al 20 0),
  (20, t_il 22 4),
  (22, t_pI 25 5 83),
  (25, t_vret)]
set_option maxRecDepth 4000 in
theorem en_X3_init (E : kx_E) {av : List Value} {M : kx_M} {k ks : Nat} {Qr : kx_Q} (hlen : (lg_sl av).length ≤ 5) (h : ∀ G : kx_K, kx_all G Qr (cd_X3_init E) → G k ks 0 (lv_args 0 av) [] M) : c2t_X3_init E av M k ks Qr := by
  refine kx_enter (by decide) rfl hlen (own := RX3) rfl (cd := cd_X3_init E) ?_ h
  intro p e s m below meth c C hr hl hnm
  exact ⟨ok_aload_n C dX3_init_0 rfl,
    ok_oin C mX3_init_0 mX3_init_1 mX3_init_2 ⟨Nat.le_of_ble_eq_true rfl, Nat.le_of_ble_eq_true rfl⟩ dX3_init_1,
    ok_aload_n C dX3_init_4 rfl,
    ok_aload_n C dX3_init_5 rfl,
    ok_pRF C (ci := 4) (k := 0) (Cn := RX3) (T := TX3) (N := 7) (index := 7) (ref := "Bloomclock$Crop") (kx_w2_good E) rfl rfl (by decide) hiX3_init_4 mX3_init_3 (fun _ h9 => h9) tyX3 tyX3_ok nmX3 rfl (ty := (.object "Bloomclock$Grower")) (by decide +kernel) (fun o => by cases o <;> exact ⟨rfl, rfl⟩) rfl (hnm.trans rfl) rfl dX3_init_6,
    ok_aload_n C dX3_init_9 rfl,
    ok_iload_n C dX3_init_10 rfl,
    ok_pIF C (ci := 4) (k := 1) (Cn := RX3) (T := TX3) (N := 7) (index := 13) (ref := "Bloomclock$Crop") (kx_w2_good E) rfl rfl (by decide) hiX3_init_4 mX3_init_5 (fun _ h9 => h9) tyX3 tyX3_ok nmX3 rfl (by decide +kernel) rfl (hnm.trans rfl) rfl dX3_init_11,
    ok_aload_n C dX3_init_14 rfl,
    ok_iload_n C dX3_init_15 rfl,
    ok_pIF C (ci := 4) (k := 2) (Cn := RX3) (T := TX3) (N := 7) (index := 17) (ref := "Bloomclock$Crop") (kx_w2_good E) rfl rfl (by decide) hiX3_init_4 mX3_init_6 (fun _ h9 => h9) tyX3 tyX3_ok nmX3 rfl (by decide +kernel) rfl (hnm.trans rfl) rfl dX3_init_16,
    ok_aload_n C dX3_init_19 rfl,
    ok_iload C dX3_init_20,
    ok_pI C (ci := 4) (k := 3) (Cn := RX3) (T := TX3) (N := 7) (index := 20) (ref := "Bloomclock$Crop") (kx_w2_good E) rfl rfl (by decide) hiX3_init_4 mX3_init_7 (fun _ h9 => h9) tyX3 tyX3_ok nmX3 rfl (by decide +kernel) rfl dX3_init_22,
    ok_vret C hr hl dX3_init_25, trivial⟩

theorem mX6_init_0 : Cond.methodLink RX6 1 objectInit ∈ wsX6_init := by decide +kernel
theorem mX6_init_1 : Cond.instanceMethod objectInit ∈ wsX6_init := by decide +kernel
theorem mX6_init_2 : Cond.code objectInit ⟨#[0xb1]⟩ 1 none ∈ wsX6_init := by decide +kernel
theorem mX6_init_3 : Cond.fieldLink RX6 7 "Bloomclock$Order" "buyer" "LBloomclock$Buyer;" ∈ wsX6_init := by decide +kernel
theorem hiX6_init_7 : ∀ w ∈ u_ws RX6 TX6 8, w ∈ wsX6_init := by decide +kernel
theorem mX6_init_5 : Cond.fieldLink RX6 13 "Bloomclock$Order" "cultivar" "I" ∈ wsX6_init := by decide +kernel
theorem mX6_init_6 : Cond.fieldLink RX6 17 "Bloomclock$Order" "grade" "I" ∈ wsX6_init := by decide +kernel
theorem mX6_init_7 : Cond.fieldLink RX6 20 "Bloomclock$Order" "shown" "I" ∈ wsX6_init := by decide +kernel
theorem mX6_init_8 : Cond.fieldLink RX6 23 "Bloomclock$Order" "mark" "I" ∈ wsX6_init := by decide +kernel
theorem mX6_init_9 : Cond.fieldLink RX6 26 "Bloomclock$Order" "limit" "I" ∈ wsX6_init := by decide +kernel
theorem mX6_init_10 : Cond.fieldLink RX6 29 "Bloomclock$Order" "wanted" "I" ∈ wsX6_init := by decide +kernel
abbrev c2t_X6_init (E : kx_E) (av : List Value) (M : kx_M) (k ks : Nat) (Q : kx_Q) : Prop := kx_CT E (kx_w2 E) yX6_init wsX6_init 1 12 av M k ks Q
def cd_X6_init (E : kx_E) : List (Nat × kx_T) := [
  (0, t_al 1 0),
  (1, t_oin 4),
  (4, t_al 5 0),
  (5, t_al 6 1),
  (6, t_pR 9 8 140),
  (9, t_al 10 0),
  (10, t_il 11 2),
  (11, t_pI 14 8 141),
  (14, t_al 15 0),
  (15, t_il 16 3),
  (16, t_pI 19 8 142),
  (19, t_al 20 0),
  (20, t_il 22 4),
  (22, t_pI 25 8 143),
  (25, t_al 26 0),
  (26, t_il 28 5),
  (28, t_pI 31 8 144),
  (31, t_al 32 0),
  (32, t_il 34 6),
  (34, t_pI 37 8 145),
  (37, t_al 38 0),
  (38, t_il 40 7),
  (40, t_pI 43 8 146),
  (43, t_vret)]
set_option maxRecDepth 4000 in
theorem en_X6_init (E : kx_E) {av : List Value} {M : kx_M} {k ks : Nat} {Qr : kx_Q} (hlen : (lg_sl av).length ≤ 8) (h : ∀ G : kx_K, kx_all G Qr (cd_X6_init E) → G k ks 0 (lv_args 0 av) [] M) : c2t_X6_init E av M k ks Qr := by
  refine kx_enter (by decide) rfl hlen (own := RX6) rfl (cd := cd_X6_init E) ?_ h
  intro p e s m below meth c C hr hl hnm
  exact ⟨ok_aload_n C dX6_init_0 rfl,
    ok_oin C mX6_init_0 mX6_init_1 mX6_init_2 ⟨Nat.le_of_ble_eq_true rfl, Nat.le_of_ble_eq_true rfl⟩ dX6_init_1,
    ok_aload_n C dX6_init_4 rfl,
    ok_aload_n C dX6_init_5 rfl,
    ok_pRF C (ci := 7) (k := 0) (Cn := RX6) (T := TX6) (N := 8) (index := 7) (ref := "Bloomclock$Order") (kx_w2_good E) rfl rfl (by decide) hiX6_init_7 mX6_init_3 (fun _ h9 => h9) tyX6 tyX6_ok nmX6 rfl (ty := (.object "Bloomclock$Buyer")) (by decide +kernel) (fun o => by cases o <;> exact ⟨rfl, rfl⟩) rfl (hnm.trans rfl) rfl dX6_init_6,
    ok_aload_n C dX6_init_9 rfl,
    ok_iload_n C dX6_init_10 rfl,
    ok_pIF C (ci := 7) (k := 1) (Cn := RX6) (T := TX6) (N := 8) (index := 13) (ref := "Bloomclock$Order") (kx_w2_good E) rfl rfl (by decide) hiX6_init_7 mX6_init_5 (fun _ h9 => h9) tyX6 tyX6_ok nmX6 rfl (by decide +kernel) rfl (hnm.trans rfl) rfl dX6_init_11,
    ok_aload_n C dX6_init_14 rfl,
    ok_iload_n C dX6_init_15 rfl,
    ok_pIF C (ci := 7) (k := 2) (Cn := RX6) (T := TX6) (N := 8) (index := 17) (ref := "Bloomclock$Order") (kx_w2_good E) rfl rfl (by decide) hiX6_init_7 mX6_init_6 (fun _ h9 => h9) tyX6 tyX6_ok nmX6 rfl (by decide +kernel) rfl (hnm.trans rfl) rfl dX6_init_16,
    ok_aload_n C dX6_init_19 rfl,
    ok_iload C dX6_init_20,
    ok_pIF C (ci := 7) (k := 3) (Cn := RX6) (T := TX6) (N := 8) (index := 20) (ref := "Bloomclock$Order") (kx_w2_good E) rfl rfl (by decide) hiX6_init_7 mX6_init_7 (fun _ h9 => h9) tyX6 tyX6_ok nmX6 rfl (by decide +kernel) rfl (hnm.trans rfl) rfl dX6_init_22,
    ok_aload_n C dX6_init_25 rfl,
    ok_iload C dX6_init_26,
    ok_pIF C (ci := 7) (k := 4) (Cn := RX6) (T := TX6) (N := 8) (index := 23) (ref := "Bloomclock$Order") (kx_w2_good E) rfl rfl (by decide) hiX6_init_7 mX6_init_8 (fun _ h9 => h9) tyX6 tyX6_ok nmX6 rfl (by decide +kernel) rfl (hnm.trans rfl) rfl dX6_init_28,
    ok_aload_n C dX6_init_31 rfl,
    ok_iload C dX6_init_32,
    ok_pIF C (ci := 7) (k := 5) (Cn := RX6) (T := TX6) (N := 8) (index := 26) (ref := "Bloomclock$Order") (kx_w2_good E) rfl rfl (by decide) hiX6_init_7 mX6_init_9 (fun _ h9 => h9) tyX6 tyX6_ok nmX6 rfl (by decide +kernel) rfl (hnm.trans rfl) rfl dX6_init_34,
    ok_aload_n C dX6_init_37 rfl,
    ok_iload C dX6_init_38,
    ok_pI C (ci := 7) (k := 6) (Cn := RX6) (T := TX6) (N := 8) (index := 29) (ref := "Bloomclock$Order") (kx_w2_good E) rfl rfl (by decide) hiX6_init_7 mX6_init_10 (fun _ h9 => h9) tyX6 tyX6_ok nmX6 rfl (by decide +kernel) rfl dX6_init_40,
    ok_vret C hr hl dX6_init_43, trivial⟩

theorem mX7_init_0 : Cond.methodLink RX7 1 objectInit ∈ wsX7_init := by decide +kernel
theorem mX7_init_1 : Cond.instanceMethod objectInit ∈ wsX7_init := by decide +kernel
theorem mX7_init_2 : Cond.code objectInit ⟨#[0xb1]⟩ 1 none ∈ wsX7_init := by decide +kernel
theorem mX7_init_3 : Cond.fieldLink RX7 7 "Bloomclock$Sale" "lot" "LBloomclock$Lot;" ∈ wsX7_init := by decide +kernel
theorem hiX7_init_8 : ∀ w ∈ u_ws RX7 TX7 7, w ∈ wsX7_init := by decide +kernel
theorem mX7_init_5 : Cond.fieldLink RX7 13 "Bloomclock$Sale" "buyer" "LBloomclock$Buyer;" ∈ wsX7_init := by decide +kernel
theorem mX7_init_6 : Cond.fieldLink RX7 17 "Bloomclock$Sale" "order" "LBloomclock$Order;" ∈ wsX7_init := by decide +kernel
theorem mX7_init_7 : Cond.fieldLink RX7 21 "Bloomclock$Sale" "stems" "I" ∈ wsX7_init := by decide +kernel
theorem mX7_init_8 : Cond.fieldLink RX7 25 "Bloomclock$Sale" "price" "I" ∈ wsX7_init := by decide +kernel
theorem mX7_init_9 : Cond.fieldLink RX7 28 "Bloomclock$Sale" "hour" "I" ∈ wsX7_init := by decide +kernel
theorem mX7_init_10 : Cond.fieldLink RX7 31 "Bloomclock$Sale" "buckets" "I" ∈ wsX7_init := by decide +kernel
abbrev c2t_X7_init (E : kx_E) (av : List Value) (M : kx_M) (k ks : Nat) (Q : kx_Q) : Prop := kx_CT E (kx_w2 E) yX7_init wsX7_init 1 12 av M k ks Q
def cd_X7_init (E : kx_E) : List (Nat × kx_T) := [
  (0, t_al 1 0),
  (1, t_oin 4),
  (4, t_al 5 0),
  (5, t_al 6 1),
  (6, t_pR 9 9 160),
  (9, t_al 10 0),
  (10, t_al 11 2),
  (11, t_pR 14 9 161),
  (14, t_al 15 0),
  (15, t_al 16 3),
  (16, t_pR 19 9 162),
  (19, t_al 20 0),
  (20, t_il 22 4),
  (22, t_pI 25 9 163),
  (25, t_al 26 0),
  (26, t_il 28 5),
  (28, t_pI 31 9 164),
  (31, t_al 32 0),
  (32, t_il 34 6),
  (34, t_pI 37 9 165),
  (37, t_al 38 0),
  (38, t_il 40 7),
  (40, t_pI 43 9 166),
  (43, t_vret)]
set_option maxRecDepth 4000 in
theorem en_X7_init (E : kx_E) {av : List Value} {M : kx_M} {k ks : Nat} {Qr : kx_Q} (hlen : (lg_sl av).length ≤ 8) (h : ∀ G : kx_K, kx_all G Qr (cd_X7_init E) → G k ks 0 (lv_args 0 av) [] M) : c2t_X7_init E av M k ks Qr := by
  refine kx_enter (by decide) rfl hlen (own := RX7) rfl (cd := cd_X7_init E) ?_ h
  intro p e s m below meth c C hr hl hnm
  exact ⟨ok_aload_n C dX7_init_0 rfl,
    ok_oin C mX7_init_0 mX7_init_1 mX7_init_2 ⟨Nat.le_of_ble_eq_true rfl, Nat.le_of_ble_eq_true rfl⟩ dX7_init_1,
    ok_aload_n C dX7_init_4 rfl,
    ok_aload_n C dX7_init_5 rfl,
    ok_pRF C (ci := 8) (k := 0) (Cn := RX7) (T := TX7) (N := 7) (index := 7) (ref := "Bloomclock$Sale") (kx_w2_good E) rfl rfl (by decide) hiX7_init_8 mX7_init_3 (fun _ h9 => h9) tyX7 tyX7_ok nmX7 rfl (ty := (.object "Bloomclock$Lot")) (by decide +kernel) (fun o => by cases o <;> exact ⟨rfl, rfl⟩) rfl (hnm.trans rfl) rfl dX7_init_6,
    ok_aload_n C dX7_init_9 rfl,
    ok_aload_n C dX7_init_10 rfl,
    ok_pRF C (ci := 8) (k := 1) (Cn := RX7) (T := TX7) (N := 7) (index := 13) (ref := "Bloomclock$Sale") (kx_w2_good E) rfl rfl (by decide) hiX7_init_8 mX7_init_5 (fun _ h9 => h9) tyX7 tyX7_ok nmX7 rfl (ty := (.object "Bloomclock$Buyer")) (by decide +kernel) (fun o => by cases o <;> exact ⟨rfl, rfl⟩) rfl (hnm.trans rfl) rfl dX7_init_11,
    ok_aload_n C dX7_init_14 rfl,
    ok_aload_n C dX7_init_15 rfl,
    ok_pRF C (ci := 8) (k := 2) (Cn := RX7) (T := TX7) (N := 7) (index := 17) (ref := "Bloomclock$Sale") (kx_w2_good E) rfl rfl (by decide) hiX7_init_8 mX7_init_6 (fun _ h9 => h9) tyX7 tyX7_ok nmX7 rfl (ty := (.object "Bloomclock$Order")) (by decide +kernel) (fun o => by cases o <;> exact ⟨rfl, rfl⟩) rfl (hnm.trans rfl) rfl dX7_init_16,
    ok_aload_n C dX7_init_19 rfl,
    ok_iload C dX7_init_20,
    ok_pIF C (ci := 8) (k := 3) (Cn := RX7) (T := TX7) (N := 7) (index := 21) (ref := "Bloomclock$Sale") (kx_w2_good E) rfl rfl (by decide) hiX7_init_8 mX7_init_7 (fun _ h9 => h9) tyX7 tyX7_ok nmX7 rfl (by decide +kernel) rfl (hnm.trans rfl) rfl dX7_init_22,
    ok_aload_n C dX7_init_25 rfl,
    ok_iload C dX7_init_26,
    ok_pIF C (ci := 8) (k := 4) (Cn := RX7) (T := TX7) (N := 7) (index := 25) (ref := "Bloomclock$Sale") (kx_w2_good E) rfl rfl (by decide) hiX7_init_8 mX7_init_8 (fun _ h9 => h9) tyX7 tyX7_ok nmX7 rfl (by decide +kernel) rfl (hnm.trans rfl) rfl dX7_init_28,
    ok_aload_n C dX7_init_31 rfl,
    ok_iload C dX7_init_32,
    ok_pIF C (ci := 8) (k := 5) (Cn := RX7) (T := TX7) (N := 7) (index := 28) (ref := "Bloomclock$Sale") (kx_w2_good E) rfl rfl (by decide) hiX7_init_8 mX7_init_9 (fun _ h9 => h9) tyX7 tyX7_ok nmX7 rfl (by decide +kernel) rfl (hnm.trans rfl) rfl dX7_init_34,
    ok_aload_n C dX7_init_37 rfl,
    ok_iload C dX7_init_38,
    ok_pIF C (ci := 8) (k := 6) (Cn := RX7) (T := TX7) (N := 7) (index := 31) (ref := "Bloomclock$Sale") (kx_w2_good E) rfl rfl (by decide) hiX7_init_8 mX7_init_10 (fun _ h9 => h9) tyX7 tyX7_ok nmX7 rfl (by decide +kernel) rfl (hnm.trans rfl) rfl dX7_init_40,
    ok_vret C hr hl dX7_init_43, trivial⟩

theorem mX8_init_0 : Cond.methodLink RX8 1 objectInit ∈ wsX8_init := by decide +kernel
theorem mX8_init_1 : Cond.instanceMethod objectInit ∈ wsX8_init := by decide +kernel
theorem mX8_init_2 : Cond.code objectInit ⟨#[0xb1]⟩ 1 none ∈ wsX8_init := by decide +kernel
theorem mX8_init_3 : Cond.fieldLink RX8 7 "Bloomclock$Trolley" "buyer" "LBloomclock$Buyer;" ∈ wsX8_init := by decide +kernel
theorem hiX8_init_9 : ∀ w ∈ u_ws RX8 TX8 4, w ∈ wsX8_init := by decide +kernel
theorem mX8_init_5 : Cond.fieldLink RX8 13 "Bloomclock$Trolley" "cultivar" "I" ∈ wsX8_init := by decide +kernel
theorem mX8_init_6 : Cond.fieldLink RX8 17 "Bloomclock$Trolley" "stems" "I" ∈ wsX8_init := by decide +kernel
theorem mX8_init_7 : Cond.fieldLink RX8 20 "Bloomclock$Trolley" "life" "I" ∈ wsX8_init := by decide +kernel
abbrev c2t_X8_init (E : kx_E) (av : List Value) (M : kx_M) (k ks : Nat) (Q : kx_Q) : Prop := kx_CT E (kx_w2 E) yX8_init wsX8_init 1 12 av M k ks Q
def cd_X8_init (E : kx_E) : List (Nat × kx_T) := [
  (0, t_al 1 0),
  (1, t_oin 4),
  (4, t_al 5 0),
  (5, t_al 6 1),
  (6, t_pR 9 10 180),
  (9, t_al 10 0),
  (10, t_il 11 2),
  (11, t_pI 14 10 181),
  (14, t_al 15 0),
  (15, t_il 16 3),
  (16, t_pI 19 10 182),
  (19, t_al 20 0),
  (20, t_il 22 4),
  (22, t_pI 25 10 183),
  (25, t_vret)]
set_option maxRecDepth 4000 in
theorem en_X8_init (E : kx_E) {av : List Value} {M : kx_M} {k ks : Nat} {Qr : kx_Q} (hlen : (lg_sl av).length ≤ 5) (h : ∀ G : kx_K, kx_all G Qr (cd_X8_init E) → G k ks 0 (lv_args 0 av) [] M) : c2t_X8_init E av M k ks Qr := by
  refine kx_enter (by decide) rfl hlen (own := RX8) rfl (cd := cd_X8_init E) ?_ h
  intro p e s m below meth c C hr hl hnm
  exact ⟨ok_aload_n C dX8_init_0 rfl,
    ok_oin C mX8_init_0 mX8_init_1 mX8_init_2 ⟨Nat.le_of_ble_eq_true rfl, Nat.le_of_ble_eq_true rfl⟩ dX8_init_1,
    ok_aload_n C dX8_init_4 rfl,
    ok_aload_n C dX8_init_5 rfl,
    ok_pRF C (ci := 9) (k := 0) (Cn := RX8) (T := TX8) (N := 4) (index := 7) (ref := "Bloomclock$Trolley") (kx_w2_good E) rfl rfl (by decide) hiX8_init_9 mX8_init_3 (fun _ h9 => h9) tyX8 tyX8_ok nmX8 rfl (ty := (.object "Bloomclock$Buyer")) (by decide +kernel) (fun o => by cases o <;> exact ⟨rfl, rfl⟩) rfl (hnm.trans rfl) rfl dX8_init_6,
    ok_aload_n C dX8_init_9 rfl,
    ok_iload_n C dX8_init_10 rfl,
    ok_pIF C (ci := 9) (k := 1) (Cn := RX8) (T := TX8) (N := 4) (index := 13) (ref := "Bloomclock$Trolley") (kx_w2_good E) rfl rfl (by decide) hiX8_init_9 mX8_init_5 (fun _ h9 => h9) tyX8 tyX8_ok nmX8 rfl (by decide +kernel) rfl (hnm.trans rfl) rfl dX8_init_11,
    ok_aload_n C dX8_init_14 rfl,
    ok_iload_n C dX8_init_15 rfl,
    ok_pIF C (ci := 9) (k := 2) (Cn := RX8) (T := TX8) (N := 4) (index := 17) (ref := "Bloomclock$Trolley") (kx_w2_good E) rfl rfl (by decide) hiX8_init_9 mX8_init_6 (fun _ h9 => h9) tyX8 tyX8_ok nmX8 rfl (by decide +kernel) rfl (hnm.trans rfl) rfl dX8_init_16,
    ok_aload_n C dX8_init_19 rfl,
    ok_iload C dX8_init_20,
    ok_pI C (ci := 9) (k := 3) (Cn := RX8) (T := TX8) (N := 4) (index := 20) (ref := "Bloomclock$Trolley") (kx_w2_good E) rfl rfl (by decide) hiX8_init_9 mX8_init_7 (fun _ h9 => h9) tyX8 tyX8_ok nmX8 rfl (by decide +kernel) rfl dX8_init_22,
    ok_vret C hr hl dX8_init_25, trivial⟩
