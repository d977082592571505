theorem mX1_init_0 : Cond.methodLink RX1 1 objectInit ∈ wsX1_init := by decide +kernel
theorem mX1_init_1 : Cond.instanceMethod objectInit ∈ wsX1_init := by decide +kernel
theorem mX1_init_2 : Cond.code objectInit ⟨#[0xb1]⟩ 1 none ∈ wsX1_init := by decide +kernel
theorem mX1_init_3 : Cond.arrayClass .int ∈ wsX1_init := by decide +kernel
theorem mX1_init_4 : Cond.fieldLink RX1 7 "Bloomclock$ByCultivar" "numbers" "[I" ∈ wsX1_init := by decide +kernel
theorem hiX1_init_2 : ∀ w ∈ u_ws RX1 TX1 1, w ∈ wsX1_init := by decide +kernel
abbrev c1t_X1_init (E : kx_E) (av : List Value) (M : kx_M) (k ks : Nat) (Q : kx_Q) : Prop := kx_CT E (kx_w1 E) yX1_init wsX1_init 1 12 av M k ks Q
def cd_X1_init (E : kx_E) : List (Nat × kx_T) := [
  (0, t_al 1 0),
  (1, t_oin 4),
  (4, t_al 5 0),
  (5, t_push 6 (.int 3)),
  (6, t_nwa 8),
  (8, t_dup 9),
  (9, t_push 10 (.int 0)),
  (10, t_il 11 1),
  (11, t_ias 12),
  (12, t_dup 13),
  (13, t_push 14 (.int 1)),
  (14, t_il 15 1),
  (15, t_ias 16),
  (16, t_dup 17),
  (17, t_push 18 (.int 2)),
  (18, t_il 19 1),
  (19, t_ias 20),
  (20, t_pR 23 3 40),
  (23, t_vret)]
set_option maxRecDepth 4000 in
theorem en_X1_init (E : kx_E) {av : List Value} {M : kx_M} {k ks : Nat} {Qr : kx_Q} (hlen : (lg_sl av).length ≤ 2) (h : ∀ G : kx_K, kx_all G Qr (cd_X1_init E) → G k ks 0 (lv_args 0 av) [] M) : c1t_X1_init E av M k ks Qr := by
  refine kx_enter (by decide) rfl hlen (own := RX1) rfl (cd := cd_X1_init E) ?_ h
  intro p e s m below meth c C hr hl hnm
  exact ⟨ok_aload_n C dX1_init_0 rfl,
    ok_oin C mX1_init_0 mX1_init_1 mX1_init_2 ⟨Nat.le_of_ble_eq_true rfl, Nat.le_of_ble_eq_true rfl⟩ dX1_init_1,
    ok_aload_n C dX1_init_4 rfl,
    ok_iconst C dX1_init_5 (by decide),
    ok_nwa C (kx_w1_good E) mX1_init_3 dX1_init_6,
    ok_dup C dX1_init_8,
    ok_iconst C dX1_init_9 (by decide),
    ok_iload_n C dX1_init_10 rfl,
    ok_ias C (kx_w1_good E) dX1_init_11,
    ok_dup C dX1_init_12,
    ok_iconst C dX1_init_13 (by decide),
    ok_iload_n C dX1_init_14 rfl,
    ok_ias C (kx_w1_good E) dX1_init_15,
    ok_dup C dX1_init_16,
    ok_iconst C dX1_init_17 (by decide),
    ok_iload_n C dX1_init_18 rfl,
    ok_ias C (kx_w1_good E) dX1_init_19,
    ok_pRF C (ci := 2) (k := 0) (Cn := RX1) (T := TX1) (N := 1) (index := 7) (ref := "Bloomclock$ByCultivar") (kx_w1_good E) rfl rfl (by decide) hiX1_init_2 mX1_init_4 (fun _ h9 => h9) tyX1 tyX1_ok nmX1 rfl (ty := (.array .int)) (by decide +kernel) (fun o => by cases o <;> exact ⟨rfl, rfl⟩) rfl (hnm.trans rfl) rfl dX1_init_20,
    ok_vret C hr hl dX1_init_23, trivial⟩

theorem mX1_of_0 : Cond.fieldLink RX1 7 "Bloomclock$ByCultivar" "numbers" "[I" ∈ wsX1_of := by decide +kernel
theorem hiX1_of_2 : ∀ w ∈ u_ws RX1 TX1 1, w ∈ wsX1_of := by decide +kernel
abbrev c1t_X1_of (E : kx_E) (av : List Value) (M : kx_M) (k ks : Nat) (Q : kx_Q) : Prop := kx_CT E (kx_w1 E) yX1_of wsX1_of 0 0 av M k ks Q
def cd_X1_of (E : kx_E) : List (Nat × kx_T) := [
  (0, t_il 1 1),
  (1, t_if 4 22 (fun x => x < 0)),
  (4, t_il 5 1),
  (5, t_al 6 0),
  (6, t_gR 9 3 40),
  (9, t_aln 10),
  (10, t_ic 13 22 (fun x y => y ≤ x)),
  (13, t_al 14 0),
  (14, t_gR 17 3 40),
  (17, t_il 18 1),
  (18, t_ial 19),
  (19, t_go 23),
  (22, t_push 23 (.int 0)),
  (23, t_iret)]
set_option maxRecDepth 4000 in
theorem en_X1_of (E : kx_E) {av : List Value} {M : kx_M} {k ks : Nat} {Qr : kx_Q} (hlen : (lg_sl av).length ≤ 2) (h : ∀ G : kx_K, kx_all G Qr (cd_X1_of E) → G k ks 0 (lv_args 0 av) [] M) : c1t_X1_of E av M k ks Qr := by
  refine kx_enter (by decide) rfl hlen (own := RX1) rfl (cd := cd_X1_of E) ?_ h
  intro p e s m below meth c C hr hl hnm
  exact ⟨ok_iload_n C dX1_of_0 rfl,
    ok_if_lt C dX1_of_1 (by decide),
    ok_iload_n C dX1_of_4 rfl,
    ok_aload_n C dX1_of_5 rfl,
    ok_gR C (ci := 2) (k := 0) (Cn := RX1) (T := TX1) (N := 1) (index := 7) (ref := "Bloomclock$ByCultivar") (kx_w1_good E) rfl rfl (by decide) hiX1_of_2 mX1_of_0 (fun _ h9 => h9) rfl dX1_of_6,
    ok_aln C (kx_w1_good E) dX1_of_9,
    ok_ic_ge C dX1_of_10 (by decide),
    ok_aload_n C dX1_of_13 rfl,
    ok_gR C (ci := 2) (k := 0) (Cn := RX1) (T := TX1) (N := 1) (index := 7) (ref := "Bloomclock$ByCultivar") (kx_w1_good E) rfl rfl (by decide) hiX1_of_2 mX1_of_0 (fun _ h9 => h9) rfl dX1_of_14,
    ok_iload_n C dX1_of_17 rfl,
    ok_ial C (kx_w1_good E) dX1_of_18,
    ok_goto C dX1_of_19 (by decide),
    ok_iconst C dX1_of_22 (by decide),
    ok_iret C hr hl dX1_of_23, trivial⟩

theorem mX1_put_0 : Cond.fieldLink RX1 7 "Bloomclock$ByCultivar" "numbers" "[I" ∈ wsX1_put := by decide +kernel
theorem hiX1_put_2 : ∀ w ∈ u_ws RX1 TX1 1, w ∈ wsX1_put := by decide +kernel
abbrev c1t_X1_put (E : kx_E) (av : List Value) (M : kx_M) (k ks : Nat) (Q : kx_Q) : Prop := kx_CT E (kx_w1 E) yX1_put wsX1_put 0 0 av M k ks Q
def cd_X1_put (E : kx_E) : List (Nat × kx_T) := [
  (0, t_il 1 1),
  (1, t_if 4 20 (fun x => x < 0)),
  (4, t_il 5 1),
  (5, t_al 6 0),
  (6, t_gR 9 3 40),
  (9, t_aln 10),
  (10, t_ic 13 20 (fun x y => y ≤ x)),
  (13, t_al 14 0),
  (14, t_gR 17 3 40),
  (17, t_il 18 1),
  (18, t_il 19 2),
  (19, t_ias 20),
  (20, t_vret)]
set_option maxRecDepth 4000 in
theorem en_X1_put (E : kx_E) {av : List Value} {M : kx_M} {k ks : Nat} {Qr : kx_Q} (hlen : (lg_sl av).length ≤ 3) (h : ∀ G : kx_K, kx_all G Qr (cd_X1_put E) → G k ks 0 (lv_args 0 av) [] M) : c1t_X1_put E av M k ks Qr := by
  refine kx_enter (by decide) rfl hlen (own := RX1) rfl (cd := cd_X1_put E) ?_ h
  intro p e s m below meth c C hr hl hnm
  exact ⟨ok_iload_n C dX1_put_0 rfl,
    ok_if_lt C dX1_put_1 (by decide),
    ok_iload_n C dX1_put_4 rfl,
    ok_aload_n C dX1_put_5 rfl,
    ok_gR C (ci := 2) (k := 0) (Cn := RX1) (T := TX1) (N := 1) (index := 7) (ref := "Bloomclock$ByCultivar") (kx_w1_good E) rfl rfl (by decide) hiX1_put_2 mX1_put_0 (fun _ h9 => h9) rfl dX1_put_6,
    ok_aln C (kx_w1_good E) dX1_put_9,
    ok_ic_ge C dX1_put_10 (by decide),
    ok_aload_n C dX1_put_13 rfl,
    ok_gR C (ci := 2) (k := 0) (Cn := RX1) (T := TX1) (N := 1) (index := 7) (ref := "Bloomclock$ByCultivar") (kx_w1_good E) rfl rfl (by decide) hiX1_put_2 mX1_put_0 (fun _ h9 => h9) rfl dX1_put_14,
    ok_iload_n C dX1_put_17 rfl,
    ok_iload_n C dX1_put_18 rfl,
    ok_ias C (kx_w1_good E) dX1_put_19,
    ok_vret C hr hl dX1_put_20, trivial⟩

theorem mX1_putAll_0 : Cond.fieldLink RX1 7 "Bloomclock$ByCultivar" "numbers" "[I" ∈ wsX1_putAll := by decide +kernel
theorem hiX1_putAll_2 : ∀ w ∈ u_ws RX1 TX1 1, w ∈ wsX1_putAll := by decide +kernel
abbrev c1t_X1_putAll (E : kx_E) (av : List Value) (M : kx_M) (k ks : Nat) (Q : kx_Q) : Prop := kx_CT E (kx_w1 E) yX1_putAll wsX1_putAll 0 0 av M k ks Q
def cd_X1_putAll (E : kx_E) : List (Nat × kx_T) := [
  (0, t_push 1 (.int 0)),
  (1, t_is 2 2),
  (2, t_il 3 2),
  (3, t_al 4 0),
  (4, t_gR 7 3 40),
  (7, t_aln 8),
  (8, t_ic 11 24 (fun x y => y ≤ x)),
  (11, t_al 12 0),
  (12, t_gR 15 3 40),
  (15, t_il 16 2),
  (16, t_il 17 1),
  (17, t_ias 18),
  (18, t_inc 21 2 1),
  (21, t_go 2),
  (24, t_vret)]
set_option maxRecDepth 4000 in
theorem en_X1_putAll (E : kx_E) {av : List Value} {M : kx_M} {k ks : Nat} {Qr : kx_Q} (hlen : (lg_sl av).length ≤ 3) (h : ∀ G : kx_K, kx_all G Qr (cd_X1_putAll E) → G k ks 0 (lv_args 0 av) [] M) : c1t_X1_putAll E av M k ks Qr := by
  refine kx_enter (by decide) rfl hlen (own := RX1) rfl (cd := cd_X1_putAll E) ?_ h
  intro p e s m below meth c C hr hl hnm
  exact ⟨ok_iconst C dX1_putAll_0 (by decide),
    ok_istore_n C dX1_putAll_1 rfl (by decide),
    ok_iload_n C dX1_putAll_2 rfl,
    ok_aload_n C dX1_putAll_3 rfl,
    ok_gR C (ci := 2) (k := 0) (Cn := RX1) (T := TX1) (N := 1) (index := 7) (ref := "Bloomclock$ByCultivar") (kx_w1_good E) rfl rfl (by decide) hiX1_putAll_2 mX1_putAll_0 (fun _ h9 => h9) rfl dX1_putAll_4,
    ok_aln C (kx_w1_good E) dX1_putAll_7,
    ok_ic_ge C dX1_putAll_8 (by decide),
    ok_aload_n C dX1_putAll_11 rfl,
    ok_gR C (ci := 2) (k := 0) (Cn := RX1) (T := TX1) (N := 1) (index := 7) (ref := "Bloomclock$ByCultivar") (kx_w1_good E) rfl rfl (by decide) hiX1_putAll_2 mX1_putAll_0 (fun _ h9 => h9) rfl dX1_putAll_12,
    ok_iload_n C dX1_putAll_15 rfl,
    ok_iload_n C dX1_putAll_16 rfl,
    ok_ias C (kx_w1_good E) dX1_putAll_17,
    ok_iinc C dX1_putAll_18 (by decide) (by decide),
    ok_goto C dX1_putAll_21 (by decide),
    ok_vret C hr hl dX1_putAll_24, trivial⟩

theorem mX1_total_0 : Cond.fieldLink RX1 7 "Bloomclock$ByCultivar" "numbers" "[I" ∈ wsX1_total := by decide +kernel
theorem hiX1_total_2 : ∀ w ∈ u_ws RX1 TX1 1, w ∈ wsX1_total := by decide +kernel
abbrev c1t_X1_total (E : kx_E) (av : List Value) (M : kx_M) (k ks : Nat) (Q : kx_Q) : Prop := kx_CT E (kx_w1 E) yX1_total wsX1_total 0 0 av M k ks Q
def cd_X1_total (E : kx_E) : List (Nat × kx_T) := [
  (0, t_push 1 (.int 0)),
  (1, t_is 2 1),
  (2, t_push 3 (.int 0)),
  (3, t_is 4 2),
  (4, t_il 5 2),
  (5, t_al 6 0),
  (6, t_gR 9 3 40),
  (9, t_aln 10),
  (10, t_ic 13 28 (fun x y => y ≤ x)),
  (13, t_il 14 1),
  (14, t_al 15 0),
  (15, t_gR 18 3 40),
  (18, t_il 19 2),
  (19, t_ial 20),
  (20, t_bin 21 (fun x y => x + y)),
  (21, t_is 22 1),
  (22, t_inc 25 2 1),
  (25, t_go 4),
  (28, t_il 29 1),
  (29, t_iret)]
set_option maxRecDepth 4000 in
theorem en_X1_total (E : kx_E) {av : List Value} {M : kx_M} {k ks : Nat} {Qr : kx_Q} (hlen : (lg_sl av).length ≤ 3) (h : ∀ G : kx_K, kx_all G Qr (cd_X1_total E) → G k ks 0 (lv_args 0 av) [] M) : c1t_X1_total E av M k ks Qr := by
  refine kx_enter (by decide) rfl hlen (own := RX1) rfl (cd := cd_X1_total E) ?_ h
  intro p e s m below meth c C hr hl hnm
  exact ⟨ok_iconst C dX1_total_0 (by decide),
    ok_istore_n C dX1_total_1 rfl (by decide),
    ok_iconst C dX1_total_2 (by decide),
    ok_istore_n C dX1_total_3 rfl (by decide),
    ok_iload_n C dX1_total_4 rfl,
    ok_aload_n C dX1_total_5 rfl,
    ok_gR C (ci := 2) (k := 0) (Cn := RX1) (T := TX1) (N := 1) (index := 7) (ref := "Bloomclock$ByCultivar") (kx_w1_good E) rfl rfl (by decide) hiX1_total_2 mX1_total_0 (fun _ h9 => h9) rfl dX1_total_6,
    ok_aln C (kx_w1_good E) dX1_total_9,
    ok_ic_ge C dX1_total_10 (by decide),
    ok_iload_n C dX1_total_13 rfl,
    ok_aload_n C dX1_total_14 rfl,
    ok_gR C (ci := 2) (k := 0) (Cn := RX1) (T := TX1) (N := 1) (index := 7) (ref := "Bloomclock$ByCultivar") (kx_w1_good E) rfl rfl (by decide) hiX1_total_2 mX1_total_0 (fun _ h9 => h9) rfl dX1_total_15,
    ok_iload_n C dX1_total_18 rfl,
    ok_ial C (kx_w1_good E) dX1_total_19,
    ok_iadd C dX1_total_20,
    ok_istore_n C dX1_total_21 rfl (by decide),
    ok_iinc C dX1_total_22 (by decide) (by decide),
    ok_goto C dX1_total_25 (by decide),
    ok_iload_n C dX1_total_28 rfl,
    ok_iret C hr hl dX1_total_29, trivial⟩

theorem mJxa1e45_init_da8c8_0 : Cond.methodLink RJxa1e45 1 objectInit ∈ wsJxa1e45_init_da8c8 := by decide +kernel
theorem mJxa1e45_init_da8c8_1 : Cond.instanceMethod objectInit ∈ wsJxa1e45_init_da8c8 := by decide +kernel
theorem mJxa1e45_init_da8c8_2 : Cond.code objectInit ⟨#[0xb1]⟩ 1 none ∈ wsJxa1e45_init_da8c8 := by decide +kernel
abbrev c1t_Jxa1e45_init_da8c8 (E : kx_E) (av : List Value) (M : kx_M) (k ks : Nat) (Q : kx_Q) : Prop := kx_CT E (kx_w1 E) yJxa1e45_init_da8c8 wsJxa1e45_init_da8c8 1 12 av M k ks Q
def cd_Jxa1e45_init_da8c8 (E : kx_E) : List (Nat × kx_T) := [
  (0, t_al 1 0),
  (1, t_oin 4),
  (4, t_vret)]
set_option maxRecDepth 4000 in
theorem en_Jxa1e45_init_da8c8 (E : kx_E) {av : List Value} {M : kx_M} {k ks : Nat} {Qr : kx_Q} (hlen : (lg_sl av).length ≤ 1) (h : ∀ G : kx_K, kx_all G Qr (cd_Jxa1e45_init_da8c8 E) → G k ks 0 (lv_args 0 av) [] M) : c1t_Jxa1e45_init_da8c8 E av M k ks Qr := by
  refine kx_enter (by decide) rfl hlen (own := RJxa1e45) rfl (cd := cd_Jxa1e45_init_da8c8 E) ?_ h
  intro p e s m below meth c C hr hl hnm
  exact ⟨ok_aload_n C dJxa1e45_init_da8c8_0 rfl,
    ok_oin C mJxa1e45_init_da8c8_0 mJxa1e45_init_da8c8_1 mJxa1e45_init_da8c8_2 ⟨Nat.le_of_ble_eq_true rfl, Nat.le_of_ble_eq_true rfl⟩ dJxa1e45_init_da8c8_1,
    ok_vret C hr hl dJxa1e45_init_da8c8_4, trivial⟩

theorem mJxc12de_init_da8c8_0 : Cond.initialized RJxa1e45 ∈ wsJxc12de_init_da8c8 := by decide +kernel
theorem mJxc12de_init_da8c8_1 : Cond.methodLink RJxc12de 1 yJxa1e45_init_da8c8 ∈ wsJxc12de_init_da8c8 := by decide +kernel
theorem mJxc12de_init_da8c8_2 : Cond.instanceMethod yJxa1e45_init_da8c8 ∈ wsJxc12de_init_da8c8 := by decide +kernel
theorem mJxc12de_init_da8c8_3 : Cond.fieldLink RJxc12de 7 "java/util/AbstractList" "modCount" "I" ∈ wsJxc12de_init_da8c8 := by decide +kernel
theorem hiJxc12de_init_da8c8_0 : ∀ w ∈ u_ws RJx4a65c TJx4a65c 3, w ∈ wsJxc12de_init_da8c8 := by decide +kernel
abbrev c1t_Jxc12de_init_da8c8 (E : kx_E) (av : List Value) (M : kx_M) (k ks : Nat) (Q : kx_Q) : Prop := kx_CT E (kx_w1 E) yJxc12de_init_da8c8 wsJxc12de_init_da8c8 2 32 av M k ks Q
def cd_Jxc12de_init_da8c8 (E : kx_E) : List (Nat × kx_T) := [
  (0, t_al 1 0),
  (1, t_call (c1t_Jxa1e45_init_da8c8 E) 4 1 1),
  (4, t_al 5 0),
  (5, t_push 6 (.int 0)),
  (6, t_pI 9 1 0),
  (9, t_vret)]
set_option maxRecDepth 4000 in
theorem en_Jxc12de_init_da8c8 (E : kx_E) {av : List Value} {M : kx_M} {k ks : Nat} {Qr : kx_Q} (hlen : (lg_sl av).length ≤ 1) (h : ∀ G : kx_K, kx_all G Qr (cd_Jxc12de_init_da8c8 E) → G k ks 0 (lv_args 0 av) [] M) : c1t_Jxc12de_init_da8c8 E av M k ks Qr := by
  refine kx_enter (by decide) rfl hlen (own := RJxc12de) rfl (cd := cd_Jxc12de_init_da8c8 E) ?_ h
  intro p e s m below meth c C hr hl hnm
  exact ⟨ok_aload_n C dJxc12de_init_da8c8_0 rfl,
    ok_callI C (n := 0) (kv := 1) (by decide) gJxc12de_init_da8c8_Jxa1e45_init_da8c8 rfl mJxc12de_init_da8c8_0 mJxc12de_init_da8c8_1 mJxc12de_init_da8c8_2 rfl (by decide +kernel) ⟨Nat.le_of_ble_eq_true rfl, Nat.le_of_ble_eq_true rfl⟩ dJxc12de_init_da8c8_1,
    ok_aload_n C dJxc12de_init_da8c8_4 rfl,
    ok_iconst C dJxc12de_init_da8c8_5 (by decide),
    ok_pI C (ci := 0) (k := 0) (Cn := RJx4a65c) (T := TJx4a65c) (N := 3) (index := 7) (ref := "java/util/AbstractList") (kx_w1_good E) rfl rfl (by decide) hiJxc12de_init_da8c8_0 mJxc12de_init_da8c8_3 (fun _ h9 => h9) tyJx4a65c tyJx4a65c_ok nmJx4a65c rfl (by decide +kernel) rfl dJxc12de_init_da8c8_6,
    ok_vret C hr hl dJxc12de_init_da8c8_9, trivial⟩

theorem mJx4a65c_init_da8c8_0 : Cond.initialized RJxc12de ∈ wsJx4a65c_init_da8c8 := by decide +kernel
theorem mJx4a65c_init_da8c8_1 : Cond.methodLink RJx4a65c 1 yJxc12de_init_da8c8 ∈ wsJx4a65c_init_da8c8 := by decide +kernel
theorem mJx4a65c_init_da8c8_2 : Cond.instanceMethod yJxc12de_init_da8c8 ∈ wsJx4a65c_init_da8c8 := by decide +kernel
theorem mJx4a65c_init_da8c8_3 : Cond.fieldLink RJx4a65c 39 "java/util/ArrayList" "DEFAULTCAPACITY_EMPTY_ELEMENTDATA" "[Ljava/lang/Object;" ∈ wsJx4a65c_init_da8c8 := by decide +kernel
theorem mJx4a65c_init_da8c8_4 : Cond.fieldLink RJx4a65c 9 "java/util/ArrayList" "elementData" "[Ljava/lang/Object;" ∈ wsJx4a65c_init_da8c8 := by decide +kernel
theorem hiJx4a65c_init_da8c8_0 : ∀ w ∈ u_ws RJx4a65c TJx4a65c 3, w ∈ wsJx4a65c_init_da8c8 := by decide +kernel
abbrev c1t_Jx4a65c_init_da8c8 (E : kx_E) (av : List Value) (M : kx_M) (k ks : Nat) (Q : kx_Q) : Prop := kx_CT E (kx_w1 E) yJx4a65c_init_da8c8 wsJx4a65c_init_da8c8 3 52 av M k ks Q
def cd_Jx4a65c_init_da8c8 (E : kx_E) : List (Nat × kx_T) := [
  (0, t_al 1 0),
  (1, t_call (c1t_Jxc12de_init_da8c8 E) 4 1 1),
  (4, t_al 5 0),
  (5, t_push 8 (.ref (kx_e0 E))),
  (8, t_pR 11 1 1),
  (11, t_vret)]
set_option maxRecDepth 4000 in
theorem en_Jx4a65c_init_da8c8 (E : kx_E) {av : List Value} {M : kx_M} {k ks : Nat} {Qr : kx_Q} (hlen : (lg_sl av).length ≤ 1) (h : ∀ G : kx_K, kx_all G Qr (cd_Jx4a65c_init_da8c8 E) → G k ks 0 (lv_args 0 av) [] M) : c1t_Jx4a65c_init_da8c8 E av M k ks Qr := by
  refine kx_enter (by decide) rfl hlen (own := RJx4a65c) rfl (cd := cd_Jx4a65c_init_da8c8 E) ?_ h
  intro p e s m below meth c C hr hl hnm
  exact ⟨ok_aload_n C dJx4a65c_init_da8c8_0 rfl,
    ok_callI C (n := 0) (kv := 1) (by decide) gJx4a65c_init_da8c8_Jxc12de_init_da8c8 rfl mJx4a65c_init_da8c8_0 mJx4a65c_init_da8c8_1 mJx4a65c_init_da8c8_2 rfl (by decide +kernel) ⟨Nat.le_of_ble_eq_true rfl, Nat.le_of_ble_eq_true rfl⟩ dJx4a65c_init_da8c8_1,
    ok_aload_n C dJx4a65c_init_da8c8_4 rfl,
    ok_gst C mJx4a65c_init_da8c8_3 dJx4a65c_init_da8c8_5,
    ok_pR C (ci := 0) (k := 1) (Cn := RJx4a65c) (T := TJx4a65c) (N := 3) (index := 9) (ref := "java/util/ArrayList") (kx_w1_good E) rfl rfl (by decide) hiJx4a65c_init_da8c8_0 mJx4a65c_init_da8c8_4 (fun _ h9 => h9) tyJx4a65c tyJx4a65c_ok nmJx4a65c rfl (ty := (.array (.object "java/lang/Object"))) (by decide +kernel) (fun o => by cases o <;> exact ⟨rfl, rfl⟩) rfl dJx4a65c_init_da8c8_8,
    ok_vret C hr hl dJx4a65c_init_da8c8_11, trivial⟩

theorem mJ8_newLength_cabcc_0 : Cond.methodLink RJ8 194 Lib.Math.max.name ∈ wsJ8_newLength_cabcc := by decide +kernel
theorem mJ8_newLength_cabcc_1 : Cond.static Lib.Math.max.name ∈ wsJ8_newLength_cabcc := by decide +kernel
theorem mJ8_newLength_cabcc_2 : Cond.initialized "java/lang/Math" ∈ wsJ8_newLength_cabcc := by decide +kernel
theorem mJ8_newLength_cabcc_3 : Cond.code Lib.Math.max.name Lib.Math.max.code 2 (some .int) ∈ wsJ8_newLength_cabcc := by decide +kernel
theorem mJ8_newLength_cabcc_4 : Cond.constant RJ8 200 (2147483639) ∈ wsJ8_newLength_cabcc := by decide +kernel
abbrev c1t_J8_newLength_cabcc (E : kx_E) (av : List Value) (M : kx_M) (k ks : Nat) (Q : kx_Q) : Prop := kx_CT E (kx_w1 E) yJ8_newLength_cabcc wsJ8_newLength_cabcc 1 21 av M k ks Q
def cd_J8_newLength_cabcc (E : kx_E) : List (Nat × kx_T) := [
  (0, t_il 1 0),
  (1, t_il 2 1),
  (2, t_il 3 2),
  (3, t_mm 6 (fun x y => if x < y then y else x)),
  (6, t_bin 7 (fun x y => x + y)),
  (7, t_is 8 3),
  (8, t_push 9 (.int 0)),
  (9, t_il 10 3),
  (10, t_ic 13 21 (fun x y => y ≤ x)),
  (13, t_il 14 3),
  (14, t_push 16 (.int 2147483639)),
  (16, t_ic 19 21 (fun x y => y < x)),
  (19, t_il 20 3),
  (20, t_iret),
  (21, t_il 22 0),
  (22, t_il 23 1),
  (23, t_no),
  (26, t_iret)]
set_option maxRecDepth 4000 in
theorem en_J8_newLength_cabcc (E : kx_E) {av : List Value} {M : kx_M} {k ks : Nat} {Qr : kx_Q} (hlen : (lg_sl av).length ≤ 4) (h : ∀ G : kx_K, kx_all G Qr (cd_J8_newLength_cabcc E) → G k ks 0 (lv_args 0 av) [] M) : c1t_J8_newLength_cabcc E av M k ks Qr := by
  refine kx_enter (by decide) rfl hlen (own := RJ8) rfl (cd := cd_J8_newLength_cabcc E) ?_ h
  intro p e s m below meth c C hr hl hnm
  exact ⟨ok_iload_n C dJ8_newLength_cabcc_0 rfl,
    ok_iload_n C dJ8_newLength_cabcc_1 rfl,
    ok_iload_n C dJ8_newLength_cabcc_2 rfl,
    ok_max C mJ8_newLength_cabcc_0 mJ8_newLength_cabcc_1 mJ8_newLength_cabcc_2 mJ8_newLength_cabcc_3 ⟨Nat.le_of_ble_eq_true rfl, Nat.le_of_ble_eq_true rfl⟩ dJ8_newLength_cabcc_3,
    ok_iadd C dJ8_newLength_cabcc_6,
    ok_istore_n C dJ8_newLength_cabcc_7 rfl (by decide),
    ok_iconst C dJ8_newLength_cabcc_8 (by decide),
    ok_iload_n C dJ8_newLength_cabcc_9 rfl,
    ok_ic_ge C dJ8_newLength_cabcc_10 (by decide),
    ok_iload_n C dJ8_newLength_cabcc_13 rfl,
    ok_ldc C dJ8_newLength_cabcc_14 mJ8_newLength_cabcc_4,
    ok_ic_gt C dJ8_newLength_cabcc_16 (by decide),
    ok_iload_n C dJ8_newLength_cabcc_19 rfl,
    ok_iret C hr hl dJ8_newLength_cabcc_20,
    ok_iload_n C dJ8_newLength_cabcc_21 rfl,
    ok_iload_n C dJ8_newLength_cabcc_22 rfl,
    ok_no,
    ok_iret C hr hl dJ8_newLength_cabcc_26, trivial⟩

theorem mJ7_copyOf_6403c_0 : Cond.classLink RJ7 110 "[Ljava/lang/Object;" ∈ wsJ7_copyOf_6403c := by decide +kernel
theorem mJ7_copyOf_6403c_1 : Cond.classLink RJ7 2 "java/lang/Object" ∈ wsJ7_copyOf_6403c := by decide +kernel
theorem mJ7_copyOf_6403c_2 : Cond.methodLink RJ7 304 Lib.Math.min.name ∈ wsJ7_copyOf_6403c := by decide +kernel
theorem mJ7_copyOf_6403c_3 : Cond.static Lib.Math.min.name ∈ wsJ7_copyOf_6403c := by decide +kernel
theorem mJ7_copyOf_6403c_4 : Cond.initialized "java/lang/Math" ∈ wsJ7_copyOf_6403c := by decide +kernel
theorem mJ7_copyOf_6403c_5 : Cond.code Lib.Math.min.name Lib.Math.min.code 2 (some .int) ∈ wsJ7_copyOf_6403c := by decide +kernel
theorem mJ7_copyOf_6403c_6 : Cond.methodLink RJ7 150 arraycopyName ∈ wsJ7_copyOf_6403c := by decide +kernel
theorem mJ7_copyOf_6403c_7 : Cond.native arraycopyName ∈ wsJ7_copyOf_6403c := by decide +kernel
theorem mJ7_copyOf_6403c_8 : Cond.static arraycopyName ∈ wsJ7_copyOf_6403c := by decide +kernel
theorem mJ7_copyOf_6403c_9 : Cond.initialized "java/lang/System" ∈ wsJ7_copyOf_6403c := by decide +kernel
abbrev c1t_J7_copyOf_6403c (E : kx_E) (av : List Value) (M : kx_M) (k ks : Nat) (Q : kx_Q) : Prop := kx_CT E (kx_w1 E) yJ7_copyOf_6403c wsJ7_copyOf_6403c 1 27 av M k ks Q
def cd_J7_copyOf_6403c (E : kx_E) : List (Nat × kx_T) := [
  (0, t_al 1 2),
  (1, t_push 3 (.ref (kx_mi E))),
  (3, t_acmp 6 13),
  (6, t_il 7 1),
  (7, t_nwq E 10),
  (10, t_go 24),
  (13, t_al 14 2),
  (14, t_no),
  (17, t_il 18 1),
  (18, t_no),
  (24, t_as 25 3),
  (25, t_al 26 0),
  (26, t_push 27 (.int 0)),
  (27, t_al 28 3),
  (28, t_push 29 (.int 0)),
  (29, t_al 30 0),
  (30, t_qln E 31),
  (31, t_il 32 1),
  (32, t_mm 35 (fun x y => if y < x then y else x)),
  (35, t_acp E 38),
  (38, t_al 39 3),
  (39, t_aret)]
set_option maxRecDepth 4000 in
theorem en_J7_copyOf_6403c (E : kx_E) {av : List Value} {M : kx_M} {k ks : Nat} {Qr : kx_Q} (hlen : (lg_sl av).length ≤ 4) (h : ∀ G : kx_K, kx_all G Qr (cd_J7_copyOf_6403c E) → G k ks 0 (lv_args 0 av) [] M) : c1t_J7_copyOf_6403c E av M k ks Qr := by
  refine kx_enter (by decide) rfl hlen (own := RJ7) rfl (cd := cd_J7_copyOf_6403c E) ?_ h
  intro p e s m below meth c C hr hl hnm
  exact ⟨ok_aload_n C dJ7_copyOf_6403c_0 rfl,
    ok_ldm C mJ7_copyOf_6403c_0 dJ7_copyOf_6403c_1,
    ok_acmp_ne C dJ7_copyOf_6403c_3 (by decide),
    ok_iload_n C dJ7_copyOf_6403c_6 rfl,
    ok_nwq C mJ7_copyOf_6403c_1 dJ7_copyOf_6403c_7,
    ok_goto C dJ7_copyOf_6403c_10 (by decide),
    ok_aload_n C dJ7_copyOf_6403c_13 rfl,
    ok_no,
    ok_iload_n C dJ7_copyOf_6403c_17 rfl,
    ok_no,
    ok_astore_n C dJ7_copyOf_6403c_24 rfl (by decide),
    ok_aload_n C dJ7_copyOf_6403c_25 rfl,
    ok_iconst C dJ7_copyOf_6403c_26 (by decide),
    ok_aload_n C dJ7_copyOf_6403c_27 rfl,
    ok_iconst C dJ7_copyOf_6403c_28 (by decide),
    ok_aload_n C dJ7_copyOf_6403c_29 rfl,
    ok_qln C dJ7_copyOf_6403c_30,
    ok_iload_n C dJ7_copyOf_6403c_31 rfl,
    ok_min C mJ7_copyOf_6403c_2 mJ7_copyOf_6403c_3 mJ7_copyOf_6403c_4 mJ7_copyOf_6403c_5 ⟨Nat.le_of_ble_eq_true rfl, Nat.le_of_ble_eq_true rfl⟩ dJ7_copyOf_6403c_32,
    ok_acp C mJ7_copyOf_6403c_6 mJ7_copyOf_6403c_7 mJ7_copyOf_6403c_8 mJ7_copyOf_6403c_9 ⟨Nat.le_of_ble_eq_true rfl, (show 8 + (nativeFrameWords "java/lang/System" "arraycopy" 5 + 11) ≤ 27 by decide)⟩ dJ7_copyOf_6403c_35,
    ok_aload_n C dJ7_copyOf_6403c_38 rfl,
    ok_aret C hr (Or.inr ⟨_, rfl⟩) hl dJ7_copyOf_6403c_39, trivial⟩

theorem mJ7_copyOf_1904c_0 : Cond.methodLink RJ7 86 ⟨"java/lang/Object", "getClass", "()Ljava/lang/Class;"⟩ ∈ wsJ7_copyOf_1904c := by decide +kernel
theorem mJ7_copyOf_1904c_1 : Cond.selects "[Ljava/lang/Object;" ⟨"java/lang/Object", "getClass", "()Ljava/lang/Class;"⟩ ⟨"java/lang/Object", "getClass", "()Ljava/lang/Class;"⟩ ∈ wsJ7_copyOf_1904c := by decide +kernel
theorem mJ7_copyOf_1904c_2 : Cond.instanceMethod ⟨"java/lang/Object", "getClass", "()Ljava/lang/Class;"⟩ ∈ wsJ7_copyOf_1904c := by decide +kernel
theorem mJ7_copyOf_1904c_3 : Cond.native ⟨"java/lang/Object", "getClass", "()Ljava/lang/Class;"⟩ ∈ wsJ7_copyOf_1904c := by decide +kernel
theorem mJ7_copyOf_1904c_4 : Cond.static yJ7_copyOf_6403c ∈ wsJ7_copyOf_1904c := by decide +kernel
theorem mJ7_copyOf_1904c_5 : Cond.methodLink RJ7 300 yJ7_copyOf_6403c ∈ wsJ7_copyOf_1904c := by decide +kernel
theorem mJ7_copyOf_1904c_6 : Cond.initialized RJ7 ∈ wsJ7_copyOf_1904c := by decide +kernel
abbrev c1t_J7_copyOf_1904c (E : kx_E) (av : List Value) (M : kx_M) (k ks : Nat) (Q : kx_Q) : Prop := kx_CT E (kx_w1 E) yJ7_copyOf_1904c wsJ7_copyOf_1904c 2 50 av M k ks Q
def cd_J7_copyOf_1904c (E : kx_E) : List (Nat × kx_T) := [
  (0, t_al 1 0),
  (1, t_il 2 1),
  (2, t_al 3 0),
  (3, t_gcl E 6),
  (6, t_call (c1t_J7_copyOf_6403c E) 9 3 0),
  (9, t_aret)]
set_option maxRecDepth 4000 in
theorem en_J7_copyOf_1904c (E : kx_E) {av : List Value} {M : kx_M} {k ks : Nat} {Qr : kx_Q} (hlen : (lg_sl av).length ≤ 2) (h : ∀ G : kx_K, kx_all G Qr (cd_J7_copyOf_1904c E) → G k ks 0 (lv_args 0 av) [] M) : c1t_J7_copyOf_1904c E av M k ks Qr := by
  refine kx_enter (by decide) rfl hlen (own := RJ7) rfl (cd := cd_J7_copyOf_1904c E) ?_ h
  intro p e s m below meth c C hr hl hnm
  exact ⟨ok_aload_n C dJ7_copyOf_1904c_0 rfl,
    ok_iload_n C dJ7_copyOf_1904c_1 rfl,
    ok_aload_n C dJ7_copyOf_1904c_2 rfl,
    ok_gcl C mJ7_copyOf_1904c_0 mJ7_copyOf_1904c_1 mJ7_copyOf_1904c_2 mJ7_copyOf_1904c_3 ⟨Nat.le_of_ble_eq_true rfl, Nat.le_of_ble_eq_true rfl⟩ dJ7_copyOf_1904c_3,
    ok_callT C (n := 3) ggJ7_copyOf_1904c_J7_copyOf_6403c mJ7_copyOf_1904c_4 mJ7_copyOf_1904c_5 mJ7_copyOf_1904c_6 rfl (by decide +kernel) ⟨Nat.le_of_ble_eq_true rfl, Nat.le_of_ble_eq_true rfl⟩ dJ7_copyOf_1904c_6,
    ok_aret C hr (Or.inr ⟨_, rfl⟩) hl dJ7_copyOf_1904c_9, trivial⟩

theorem mJx4a65c_grow_92f84_0 : Cond.fieldLink RJx4a65c 9 "java/util/ArrayList" "elementData" "[Ljava/lang/Object;" ∈ wsJx4a65c_grow_92f84 := by decide +kernel
theorem hiJx4a65c_grow_92f84_0 : ∀ w ∈ u_ws RJx4a65c TJx4a65c 3, w ∈ wsJx4a65c_grow_92f84 := by decide +kernel
theorem mJx4a65c_grow_92f84_2 : Cond.fieldLink RJx4a65c 39 "java/util/ArrayList" "DEFAULTCAPACITY_EMPTY_ELEMENTDATA" "[Ljava/lang/Object;" ∈ wsJx4a65c_grow_92f84 := by decide +kernel
theorem mJx4a65c_grow_92f84_3 : Cond.static yJ8_newLength_cabcc ∈ wsJx4a65c_grow_92f84 := by decide +kernel
theorem mJx4a65c_grow_92f84_4 : Cond.methodLink RJx4a65c 73 yJ8_newLength_cabcc ∈ wsJx4a65c_grow_92f84 := by decide +kernel
theorem mJx4a65c_grow_92f84_5 : Cond.initialized RJ8 ∈ wsJx4a65c_grow_92f84 := by decide +kernel
theorem mJx4a65c_grow_92f84_6 : Cond.static yJ7_copyOf_1904c ∈ wsJx4a65c_grow_92f84 := by decide +kernel
theorem mJx4a65c_grow_92f84_7 : Cond.methodLink RJx4a65c 66 yJ7_copyOf_1904c ∈ wsJx4a65c_grow_92f84 := by decide +kernel
theorem mJx4a65c_grow_92f84_8 : Cond.initialized RJ7 ∈ wsJx4a65c_grow_92f84 := by decide +kernel
theorem mJx4a65c_grow_92f84_9 : Cond.methodLink RJx4a65c 79 Lib.Math.max.name ∈ wsJx4a65c_grow_92f84 := by decide +kernel
theorem mJx4a65c_grow_92f84_10 : Cond.static Lib.Math.max.name ∈ wsJx4a65c_grow_92f84 := by decide +kernel
theorem mJx4a65c_grow_92f84_11 : Cond.initialized "java/lang/Math" ∈ wsJx4a65c_grow_92f84 := by decide +kernel
theorem mJx4a65c_grow_92f84_12 : Cond.code Lib.Math.max.name Lib.Math.max.code 2 (some .int) ∈ wsJx4a65c_grow_92f84 := by decide +kernel
theorem mJx4a65c_grow_92f84_13 : Cond.classLink RJx4a65c 7 "java/lang/Object" ∈ wsJx4a65c_grow_92f84 := by decide +kernel
abbrev c1t_Jx4a65c_grow_92f84 (E : kx_E) (av : List Value) (M : kx_M) (k ks : Nat) (Q : kx_Q) : Prop := kx_CT E (kx_w1 E) yJx4a65c_grow_92f84 wsJx4a65c_grow_92f84 3 71 av M k ks Q
def cd_Jx4a65c_grow_92f84 (E : kx_E) : List (Nat × kx_T) := [
  (0, t_al 1 0),
  (1, t_gR 4 1 1),
  (4, t_qln E 5),
  (5, t_is 6 2),
  (6, t_il 7 2),
  (7, t_if 10 20 (fun x => 0 < x)),
  (10, t_al 11 0),
  (11, t_gR 14 1 1),
  (14, t_push 17 (.ref (kx_e0 E))),
  (17, t_acmp 45 20),
  (20, t_il 21 2),
  (21, t_il 22 1),
  (22, t_il 23 2),
  (23, t_bin 24 (fun x y => x - y)),
  (24, t_il 25 2),
  (25, t_push 26 (.int 1)),
  (26, t_bin 27 (fun x y => x >>> (y &&& 31))),
  (27, t_call (c1t_J8_newLength_cabcc E) 30 3 0),
  (30, t_is 31 3),
  (31, t_al 32 0),
  (32, t_al 33 0),
  (33, t_gR 36 1 1),
  (36, t_il 37 3),
  (37, t_call (c1t_J7_copyOf_1904c E) 40 2 0),
  (40, t_dupx 41),
  (41, t_pR 44 1 1),
  (44, t_aret),
  (45, t_al 46 0),
  (46, t_push 48 (.int 10)),
  (48, t_il 49 1),
  (49, t_mm 52 (fun x y => if x < y then y else x)),
  (52, t_nwq E 55),
  (55, t_dupx 56),
  (56, t_pR 59 1 1),
  (59, t_aret)]
set_option maxRecDepth 4000 in
theorem en_Jx4a65c_grow_92f84 (E : kx_E) {av : List Value} {M : kx_M} {k ks : Nat} {Qr : kx_Q} (hlen : (lg_sl av).length ≤ 4) (h : ∀ G : kx_K, kx_all G Qr (cd_Jx4a65c_grow_92f84 E) → G k ks 0 (lv_args 0 av) [] M) : c1t_Jx4a65c_grow_92f84 E av M k ks Qr := by
  refine kx_enter (by decide) rfl hlen (own := RJx4a65c) rfl (cd := cd_Jx4a65c_grow_92f84 E) ?_ h
  intro p e s m below meth c C hr hl hnm
  exact ⟨ok_aload_n C dJx4a65c_grow_92f84_0 rfl,
    ok_gR C (ci := 0) (k := 1) (Cn := RJx4a65c) (T := TJx4a65c) (N := 3) (index := 9) (ref := "java/util/ArrayList") (kx_w1_good E) rfl rfl (by decide) hiJx4a65c_grow_92f84_0 mJx4a65c_grow_92f84_0 (fun _ h9 => h9) rfl dJx4a65c_grow_92f84_1,
    ok_qln C dJx4a65c_grow_92f84_4,
    ok_istore_n C dJx4a65c_grow_92f84_5 rfl (by decide),
    ok_iload_n C dJx4a65c_grow_92f84_6 rfl,
    ok_if_gt C dJx4a65c_grow_92f84_7 (by decide),
    ok_aload_n C dJx4a65c_grow_92f84_10 rfl,
    ok_gR C (ci := 0) (k := 1) (Cn := RJx4a65c) (T := TJx4a65c) (N := 3) (index := 9) (ref := "java/util/ArrayList") (kx_w1_good E) rfl rfl (by decide) hiJx4a65c_grow_92f84_0 mJx4a65c_grow_92f84_0 (fun _ h9 => h9) rfl dJx4a65c_grow_92f84_11,
    ok_gst C mJx4a65c_grow_92f84_2 dJx4a65c_grow_92f84_14,
    ok_acmp_eq C dJx4a65c_grow_92f84_17 (by decide),
    ok_iload_n C dJx4a65c_grow_92f84_20 rfl,
    ok_iload_n C dJx4a65c_grow_92f84_21 rfl,
    ok_iload_n C dJx4a65c_grow_92f84_22 rfl,
    ok_isub C dJx4a65c_grow_92f84_23,
    ok_iload_n C dJx4a65c_grow_92f84_24 rfl,
    ok_iconst C dJx4a65c_grow_92f84_25 (by decide),
    ok_ishr C dJx4a65c_grow_92f84_26,
    ok_callT C (n := 3) ggJx4a65c_grow_92f84_J8_newLength_cabcc mJx4a65c_grow_92f84_3 mJx4a65c_grow_92f84_4 mJx4a65c_grow_92f84_5 rfl (by decide +kernel) ⟨Nat.le_of_ble_eq_true rfl, Nat.le_of_ble_eq_true rfl⟩ dJx4a65c_grow_92f84_27,
    ok_istore_n C dJx4a65c_grow_92f84_30 rfl (by decide),
    ok_aload_n C dJx4a65c_grow_92f84_31 rfl,
    ok_aload_n C dJx4a65c_grow_92f84_32 rfl,
    ok_gR C (ci := 0) (k := 1) (Cn := RJx4a65c) (T := TJx4a65c) (N := 3) (index := 9) (ref := "java/util/ArrayList") (kx_w1_good E) rfl rfl (by decide) hiJx4a65c_grow_92f84_0 mJx4a65c_grow_92f84_0 (fun _ h9 => h9) rfl dJx4a65c_grow_92f84_33,
    ok_iload_n C dJx4a65c_grow_92f84_36 rfl,
    ok_callT C (n := 2) ggJx4a65c_grow_92f84_J7_copyOf_1904c mJx4a65c_grow_92f84_6 mJx4a65c_grow_92f84_7 mJx4a65c_grow_92f84_8 rfl (by decide +kernel) ⟨Nat.le_of_ble_eq_true rfl, Nat.le_of_ble_eq_true rfl⟩ dJx4a65c_grow_92f84_37,
    ok_dup_x1 C dJx4a65c_grow_92f84_40,
    ok_pR C (ci := 0) (k := 1) (Cn := RJx4a65c) (T := TJx4a65c) (N := 3) (index := 9) (ref := "java/util/ArrayList") (kx_w1_good E) rfl rfl (by decide) hiJx4a65c_grow_92f84_0 mJx4a65c_grow_92f84_0 (fun _ h9 => h9) tyJx4a65c tyJx4a65c_ok nmJx4a65c rfl (ty := (.array (.object "java/lang/Object"))) (by decide +kernel) (fun o => by cases o <;> exact ⟨rfl, rfl⟩) rfl dJx4a65c_grow_92f84_41,
    ok_aret C hr (Or.inr ⟨_, rfl⟩) hl dJx4a65c_grow_92f84_44,
    ok_aload_n C dJx4a65c_grow_92f84_45 rfl,
    ok_bipush C dJx4a65c_grow_92f84_46 (by decide),
    ok_iload_n C dJx4a65c_grow_92f84_48 rfl,
    ok_max C mJx4a65c_grow_92f84_9 mJx4a65c_grow_92f84_10 mJx4a65c_grow_92f84_11 mJx4a65c_grow_92f84_12 ⟨Nat.le_of_ble_eq_true rfl, Nat.le_of_ble_eq_true rfl⟩ dJx4a65c_grow_92f84_49,
    ok_nwq C mJx4a65c_grow_92f84_13 dJx4a65c_grow_92f84_52,
    ok_dup_x1 C dJx4a65c_grow_92f84_55,
    ok_pR C (ci := 0) (k := 1) (Cn := RJx4a65c) (T := TJx4a65c) (N := 3) (index := 9) (ref := "java/util/ArrayList") (kx_w1_good E) rfl rfl (by decide) hiJx4a65c_grow_92f84_0 mJx4a65c_grow_92f84_0 (fun _ h9 => h9) tyJx4a65c tyJx4a65c_ok nmJx4a65c rfl (ty := (.array (.object "java/lang/Object"))) (by decide +kernel) (fun o => by cases o <;> exact ⟨rfl, rfl⟩) rfl dJx4a65c_grow_92f84_56,
    ok_aret C hr (Or.inr ⟨_, rfl⟩) hl dJx4a65c_grow_92f84_59, trivial⟩

theorem mJx4a65c_grow_d5877_0 : Cond.fieldLink RJx4a65c 48 "java/util/ArrayList" "size" "I" ∈ wsJx4a65c_grow_d5877 := by decide +kernel
theorem hiJx4a65c_grow_d5877_0 : ∀ w ∈ u_ws RJx4a65c TJx4a65c 3, w ∈ wsJx4a65c_grow_d5877 := by decide +kernel
abbrev c1t_Jx4a65c_grow_d5877 (E : kx_E) (av : List Value) (M : kx_M) (k ks : Nat) (Q : kx_Q) : Prop := kx_CT E (kx_w1 E) yJx4a65c_grow_d5877 wsJx4a65c_grow_d5877 4 94 av M k ks Q
def cd_Jx4a65c_grow_d5877 (E : kx_E) : List (Nat × kx_T) := [
  (0, t_al 1 0),
  (1, t_al 2 0),
  (2, t_gI 5 1 2),
  (5, t_push 6 (.int 1)),
  (6, t_bin 7 (fun x y => x + y)),
  (7, t_call (c1t_Jx4a65c_grow_92f84 E) 10 2 1),
  (10, t_aret)]
set_option maxRecDepth 4000 in
theorem en_Jx4a65c_grow_d5877 (E : kx_E) {av : List Value} {M : kx_M} {k ks : Nat} {Qr : kx_Q} (hlen : (lg_sl av).length ≤ 1) (h : ∀ G : kx_K, kx_all G Qr (cd_Jx4a65c_grow_d5877 E) → G k ks 0 (lv_args 0 av) [] M) : c1t_Jx4a65c_grow_d5877 E av M k ks Qr := by
  refine kx_enter (by decide) rfl hlen (own := RJx4a65c) rfl (cd := cd_Jx4a65c_grow_d5877 E) ?_ h
  intro p e s m below meth c C hr hl hnm
  exact ⟨ok_aload_n C dJx4a65c_grow_d5877_0 rfl,
    ok_aload_n C dJx4a65c_grow_d5877_1 rfl,
    ok_gI C (ci := 0) (k := 2) (Cn := RJx4a65c) (T := TJx4a65c) (N := 3) (index := 48) (ref := "java/util/ArrayList") (kx_w1_good E) rfl rfl (by decide) hiJx4a65c_grow_d5877_0 mJx4a65c_grow_d5877_0 (fun _ h9 => h9) rfl dJx4a65c_grow_d5877_2,
    ok_iconst C dJx4a65c_grow_d5877_5 (by decide),
    ok_iadd C dJx4a65c_grow_d5877_6,
    ok_callV C (kx_w1_rcv E) (ci := 0) (Cn := RJx4a65c) (T := TJx4a65c) (N := 3) rfl (n := 1) gJx4a65c_grow_d5877_Jx4a65c_grow_92f84 rfl (by decide +kernel) ⟨Nat.le_of_ble_eq_true rfl, Nat.le_of_ble_eq_true rfl⟩ dJx4a65c_grow_d5877_7,
    ok_aret C hr (Or.inr ⟨_, rfl⟩) hl dJx4a65c_grow_d5877_10, trivial⟩

theorem mJx4a65c_size_8abf5_0 : Cond.fieldLink RJx4a65c 48 "java/util/ArrayList" "size" "I" ∈ wsJx4a65c_size_8abf5 := by decide +kernel
theorem hiJx4a65c_size_8abf5_0 : ∀ w ∈ u_ws RJx4a65c TJx4a65c 3, w ∈ wsJx4a65c_size_8abf5 := by decide +kernel
abbrev c1t_Jx4a65c_size_8abf5 (E : kx_E) (av : List Value) (M : kx_M) (k ks : Nat) (Q : kx_Q) : Prop := kx_CT E (kx_w1 E) yJx4a65c_size_8abf5 wsJx4a65c_size_8abf5 0 0 av M k ks Q
def cd_Jx4a65c_size_8abf5 (E : kx_E) : List (Nat × kx_T) := [
  (0, t_al 1 0),
  (1, t_gI 4 1 2),
  (4, t_iret)]
set_option maxRecDepth 4000 in
theorem en_Jx4a65c_size_8abf5 (E : kx_E) {av : List Value} {M : kx_M} {k ks : Nat} {Qr : kx_Q} (hlen : (lg_sl av).length ≤ 1) (h : ∀ G : kx_K, kx_all G Qr (cd_Jx4a65c_size_8abf5 E) → G k ks 0 (lv_args 0 av) [] M) : c1t_Jx4a65c_size_8abf5 E av M k ks Qr := by
  refine kx_enter (by decide) rfl hlen (own := RJx4a65c) rfl (cd := cd_Jx4a65c_size_8abf5 E) ?_ h
  intro p e s m below meth c C hr hl hnm
  exact ⟨ok_aload_n C dJx4a65c_size_8abf5_0 rfl,
    ok_gI C (ci := 0) (k := 2) (Cn := RJx4a65c) (T := TJx4a65c) (N := 3) (index := 48) (ref := "java/util/ArrayList") (kx_w1_good E) rfl rfl (by decide) hiJx4a65c_size_8abf5_0 mJx4a65c_size_8abf5_0 (fun _ h9 => h9) rfl dJx4a65c_size_8abf5_1,
    ok_iret C hr hl dJx4a65c_size_8abf5_4, trivial⟩

theorem mJx4a65c_isEmpty_aae02_0 : Cond.fieldLink RJx4a65c 48 "java/util/ArrayList" "size" "I" ∈ wsJx4a65c_isEmpty_aae02 := by decide +kernel
theorem hiJx4a65c_isEmpty_aae02_0 : ∀ w ∈ u_ws RJx4a65c TJx4a65c 3, w ∈ wsJx4a65c_isEmpty_aae02 := by decide +kernel
abbrev c1t_Jx4a65c_isEmpty_aae02 (E : kx_E) (av : List Value) (M : kx_M) (k ks : Nat) (Q : kx_Q) : Prop := kx_CT E (kx_w1 E) yJx4a65c_isEmpty_aae02 wsJx4a65c_isEmpty_aae02 0 0 av M k ks Q
def cd_Jx4a65c_isEmpty_aae02 (E : kx_E) : List (Nat × kx_T) := [
  (0, t_al 1 0),
  (1, t_gI 4 1 2),
  (4, t_if 7 11 (fun x => x ≠ 0)),
  (7, t_push 8 (.int 1)),
  (8, t_go 12),
  (11, t_push 12 (.int 0)),
  (12, t_zret)]
set_option maxRecDepth 4000 in
theorem en_Jx4a65c_isEmpty_aae02 (E : kx_E) {av : List Value} {M : kx_M} {k ks : Nat} {Qr : kx_Q} (hlen : (lg_sl av).length ≤ 1) (h : ∀ G : kx_K, kx_all G Qr (cd_Jx4a65c_isEmpty_aae02 E) → G k ks 0 (lv_args 0 av) [] M) : c1t_Jx4a65c_isEmpty_aae02 E av M k ks Qr := by
  refine kx_enter (by decide) rfl hlen (own := RJx4a65c) rfl (cd := cd_Jx4a65c_isEmpty_aae02 E) ?_ h
  intro p e s m below meth c C hr hl hnm
  exact ⟨ok_aload_n C dJx4a65c_isEmpty_aae02_0 rfl,
    ok_gI C (ci := 0) (k := 2) (Cn := RJx4a65c) (T := TJx4a65c) (N := 3) (index := 48) (ref := "java/util/ArrayList") (kx_w1_good E) rfl rfl (by decide) hiJx4a65c_isEmpty_aae02_0 mJx4a65c_isEmpty_aae02_0 (fun _ h9 => h9) rfl dJx4a65c_isEmpty_aae02_1,
    ok_if_ne C dJx4a65c_isEmpty_aae02_4 (by decide),
    ok_iconst C dJx4a65c_isEmpty_aae02_7 (by decide),
    ok_goto C dJx4a65c_isEmpty_aae02_8 (by decide),
    ok_iconst C dJx4a65c_isEmpty_aae02_11 (by decide),
    ok_zret C hr hl dJx4a65c_isEmpty_aae02_12, trivial⟩

abbrev c1t_J3_checkIndex_8e157 (E : kx_E) (av : List Value) (M : kx_M) (k ks : Nat) (Q : kx_Q) : Prop := kx_CT E (kx_w1 E) yJ3_checkIndex_8e157 wsJ3_checkIndex_8e157 0 0 av M k ks Q
def cd_J3_checkIndex_8e157 (E : kx_E) : List (Nat × kx_T) := [
  (0, t_il 1 0),
  (1, t_if 4 9 (fun x => x < 0)),
  (4, t_il 5 0),
  (5, t_il 6 1),
  (6, t_ic 9 16 (fun x y => x < y)),
  (9, t_al 10 2),
  (10, t_il 11 0),
  (11, t_il 12 1),
  (12, t_no),
  (16, t_il 17 0),
  (17, t_iret)]
set_option maxRecDepth 4000 in
theorem en_J3_checkIndex_8e157 (E : kx_E) {av : List Value} {M : kx_M} {k ks : Nat} {Qr : kx_Q} (hlen : (lg_sl av).length ≤ 3) (h : ∀ G : kx_K, kx_all G Qr (cd_J3_checkIndex_8e157 E) → G k ks 0 (lv_args 0 av) [] M) : c1t_J3_checkIndex_8e157 E av M k ks Qr := by
  refine kx_enter (by decide) rfl hlen (own := RJ3) rfl (cd := cd_J3_checkIndex_8e157 E) ?_ h
  intro p e s m below meth c C hr hl hnm
  exact ⟨ok_iload_n C dJ3_checkIndex_8e157_0 rfl,
    ok_if_lt C dJ3_checkIndex_8e157_1 (by decide),
    ok_iload_n C dJ3_checkIndex_8e157_4 rfl,
    ok_iload_n C dJ3_checkIndex_8e157_5 rfl,
    ok_ic_lt C dJ3_checkIndex_8e157_6 (by decide),
    ok_aload_n C dJ3_checkIndex_8e157_9 rfl,
    ok_iload_n C dJ3_checkIndex_8e157_10 rfl,
    ok_iload_n C dJ3_checkIndex_8e157_11 rfl,
    ok_no,
    ok_iload_n C dJ3_checkIndex_8e157_16 rfl,
    ok_iret C hr hl dJ3_checkIndex_8e157_17, trivial⟩

theorem mJ15_checkIndex_7cf53_0 : Cond.static yJ3_checkIndex_8e157 ∈ wsJ15_checkIndex_7cf53 := by decide +kernel
theorem mJ15_checkIndex_7cf53_1 : Cond.methodLink RJ15 105 yJ3_checkIndex_8e157 ∈ wsJ15_checkIndex_7cf53 := by decide +kernel
theorem mJ15_checkIndex_7cf53_2 : Cond.initialized RJ3 ∈ wsJ15_checkIndex_7cf53 := by decide +kernel
abbrev c1t_J15_checkIndex_7cf53 (E : kx_E) (av : List Value) (M : kx_M) (k ks : Nat) (Q : kx_Q) : Prop := kx_CT E (kx_w1 E) yJ15_checkIndex_7cf53 wsJ15_checkIndex_7cf53 1 22 av M k ks Q
def cd_J15_checkIndex_7cf53 (E : kx_E) : List (Nat × kx_T) := [
  (0, t_il 1 0),
  (1, t_il 2 1),
  (2, t_push 3 .null),
  (3, t_call (c1t_J3_checkIndex_8e157 E) 6 3 0),
  (6, t_iret)]
set_option maxRecDepth 4000 in
theorem en_J15_checkIndex_7cf53 (E : kx_E) {av : List Value} {M : kx_M} {k ks : Nat} {Qr : kx_Q} (hlen : (lg_sl av).length ≤ 2) (h : ∀ G : kx_K, kx_all G Qr (cd_J15_checkIndex_7cf53 E) → G k ks 0 (lv_args 0 av) [] M) : c1t_J15_checkIndex_7cf53 E av M k ks Qr := by
  refine kx_enter (by decide) rfl hlen (own := RJ15) rfl (cd := cd_J15_checkIndex_7cf53 E) ?_ h
  intro p e s m below meth c C hr hl hnm
  exact ⟨ok_iload_n C dJ15_checkIndex_7cf53_0 rfl,
    ok_iload_n C dJ15_checkIndex_7cf53_1 rfl,
    ok_null C dJ15_checkIndex_7cf53_2,
    ok_callT C (n := 3) ggJ15_checkIndex_7cf53_J3_checkIndex_8e157 mJ15_checkIndex_7cf53_0 mJ15_checkIndex_7cf53_1 mJ15_checkIndex_7cf53_2 rfl (by decide +kernel) ⟨Nat.le_of_ble_eq_true rfl, Nat.le_of_ble_eq_true rfl⟩ dJ15_checkIndex_7cf53_3,
    ok_iret C hr hl dJ15_checkIndex_7cf53_6, trivial⟩

theorem mJx4a65c_elementData_915e3_0 : Cond.fieldLink RJx4a65c 9 "java/util/ArrayList" "elementData" "[Ljava/lang/Object;" ∈ wsJx4a65c_elementData_915e3 := by decide +kernel
theorem hiJx4a65c_elementData_915e3_0 : ∀ w ∈ u_ws RJx4a65c TJx4a65c 3, w ∈ wsJx4a65c_elementData_915e3 := by decide +kernel
abbrev c1t_Jx4a65c_elementData_915e3 (E : kx_E) (av : List Value) (M : kx_M) (k ks : Nat) (Q : kx_Q) : Prop := kx_CT E (kx_w1 E) yJx4a65c_elementData_915e3 wsJx4a65c_elementData_915e3 0 0 av M k ks Q
def cd_Jx4a65c_elementData_915e3 (E : kx_E) : List (Nat × kx_T) := [
  (0, t_al 1 0),
  (1, t_gR 4 1 1),
  (4, t_il 5 1),
  (5, t_qal 6),
  (6, t_aret)]
set_option maxRecDepth 4000 in
theorem en_Jx4a65c_elementData_915e3 (E : kx_E) {av : List Value} {M : kx_M} {k ks : Nat} {Qr : kx_Q} (hlen : (lg_sl av).length ≤ 2) (h : ∀ G : kx_K, kx_all G Qr (cd_Jx4a65c_elementData_915e3 E) → G k ks 0 (lv_args 0 av) [] M) : c1t_Jx4a65c_elementData_915e3 E av M k ks Qr := by
  refine kx_enter (by decide) rfl hlen (own := RJx4a65c) rfl (cd := cd_Jx4a65c_elementData_915e3 E) ?_ h
  intro p e s m below meth c C hr hl hnm
  exact ⟨ok_aload_n C dJx4a65c_elementData_915e3_0 rfl,
    ok_gR C (ci := 0) (k := 1) (Cn := RJx4a65c) (T := TJx4a65c) (N := 3) (index := 9) (ref := "java/util/ArrayList") (kx_w1_good E) rfl rfl (by decide) hiJx4a65c_elementData_915e3_0 mJx4a65c_elementData_915e3_0 (fun _ h9 => h9) rfl dJx4a65c_elementData_915e3_1,
    ok_iload_n C dJx4a65c_elementData_915e3_4 rfl,
    ok_qal C dJx4a65c_elementData_915e3_5,
    ok_aret C hr (Or.inl ⟨_, rfl⟩) hl dJx4a65c_elementData_915e3_6, trivial⟩

theorem mJx4a65c_get_915e3_0 : Cond.fieldLink RJx4a65c 48 "java/util/ArrayList" "size" "I" ∈ wsJx4a65c_get_915e3 := by decide +kernel
theorem hiJx4a65c_get_915e3_0 : ∀ w ∈ u_ws RJx4a65c TJx4a65c 3, w ∈ wsJx4a65c_get_915e3 := by decide +kernel
theorem mJx4a65c_get_915e3_2 : Cond.static yJ15_checkIndex_7cf53 ∈ wsJx4a65c_get_915e3 := by decide +kernel
theorem mJx4a65c_get_915e3_3 : Cond.methodLink RJx4a65c 118 yJ15_checkIndex_7cf53 ∈ wsJx4a65c_get_915e3 := by decide +kernel
theorem mJx4a65c_get_915e3_4 : Cond.initialized RJ15 ∈ wsJx4a65c_get_915e3 := by decide +kernel
abbrev c1t_Jx4a65c_get_915e3 (E : kx_E) (av : List Value) (M : kx_M) (k ks : Nat) (Q : kx_Q) : Prop := kx_CT E (kx_w1 E) yJx4a65c_get_915e3 wsJx4a65c_get_915e3 2 43 av M k ks Q
def cd_Jx4a65c_get_915e3 (E : kx_E) : List (Nat × kx_T) := [
  (0, t_il 1 1),
  (1, t_al 2 0),
  (2, t_gI 5 1 2),
  (5, t_call (c1t_J15_checkIndex_7cf53 E) 8 2 0),
  (8, t_pop 9),
  (9, t_al 10 0),
  (10, t_il 11 1),
  (11, t_call (c1t_Jx4a65c_elementData_915e3 E) 14 2 1),
  (14, t_aret)]
set_option maxRecDepth 4000 in
theorem en_Jx4a65c_get_915e3 (E : kx_E) {av : List Value} {M : kx_M} {k ks : Nat} {Qr : kx_Q} (hlen : (lg_sl av).length ≤ 2) (h : ∀ G : kx_K, kx_all G Qr (cd_Jx4a65c_get_915e3 E) → G k ks 0 (lv_args 0 av) [] M) : c1t_Jx4a65c_get_915e3 E av M k ks Qr := by
  refine kx_enter (by decide) rfl hlen (own := RJx4a65c) rfl (cd := cd_Jx4a65c_get_915e3 E) ?_ h
  intro p e s m below meth c C hr hl hnm
  exact ⟨ok_iload_n C dJx4a65c_get_915e3_0 rfl,
    ok_aload_n C dJx4a65c_get_915e3_1 rfl,
    ok_gI C (ci := 0) (k := 2) (Cn := RJx4a65c) (T := TJx4a65c) (N := 3) (index := 48) (ref := "java/util/ArrayList") (kx_w1_good E) rfl rfl (by decide) hiJx4a65c_get_915e3_0 mJx4a65c_get_915e3_0 (fun _ h9 => h9) rfl dJx4a65c_get_915e3_2,
    ok_callT C (n := 2) ggJx4a65c_get_915e3_J15_checkIndex_7cf53 mJx4a65c_get_915e3_2 mJx4a65c_get_915e3_3 mJx4a65c_get_915e3_4 rfl (by decide +kernel) ⟨Nat.le_of_ble_eq_true rfl, Nat.le_of_ble_eq_true rfl⟩ dJx4a65c_get_915e3_5,
    ok_pop C dJx4a65c_get_915e3_8,
    ok_aload_n C dJx4a65c_get_915e3_9 rfl,
    ok_iload_n C dJx4a65c_get_915e3_10 rfl,
    ok_callV C (kx_w1_rcv E) (ci := 0) (Cn := RJx4a65c) (T := TJx4a65c) (N := 3) rfl (n := 1) gJx4a65c_get_915e3_Jx4a65c_elementData_915e3 rfl (by decide +kernel) ⟨Nat.le_of_ble_eq_true rfl, Nat.le_of_ble_eq_true rfl⟩ dJx4a65c_get_915e3_11,
    ok_aret C hr (Or.inl ⟨_, rfl⟩) hl dJx4a65c_get_915e3_14, trivial⟩

theorem mJx4a65c_add_72be8_0 : Cond.fieldLink RJx4a65c 48 "java/util/ArrayList" "size" "I" ∈ wsJx4a65c_add_72be8 := by decide +kernel
theorem hiJx4a65c_add_72be8_0 : ∀ w ∈ u_ws RJx4a65c TJx4a65c 3, w ∈ wsJx4a65c_add_72be8 := by decide +kernel
abbrev c1t_Jx4a65c_add_72be8 (E : kx_E) (av : List Value) (M : kx_M) (k ks : Nat) (Q : kx_Q) : Prop := kx_CT E (kx_w1 E) yJx4a65c_add_72be8 wsJx4a65c_add_72be8 5 114 av M k ks Q
def cd_Jx4a65c_add_72be8 (E : kx_E) : List (Nat × kx_T) := [
  (0, t_il 1 3),
  (1, t_al 2 2),
  (2, t_qln E 3),
  (3, t_ic 6 11 (fun x y => x ≠ y)),
  (6, t_al 7 0),
  (7, t_call (c1t_Jx4a65c_grow_d5877 E) 10 1 1),
  (10, t_as 11 2),
  (11, t_al 12 2),
  (12, t_il 13 3),
  (13, t_al 14 1),
  (14, t_qas 15),
  (15, t_al 16 0),
  (16, t_il 17 3),
  (17, t_push 18 (.int 1)),
  (18, t_bin 19 (fun x y => x + y)),
  (19, t_pI 22 1 2),
  (22, t_vret)]
set_option maxRecDepth 4000 in
theorem en_Jx4a65c_add_72be8 (E : kx_E) {av : List Value} {M : kx_M} {k ks : Nat} {Qr : kx_Q} (hlen : (lg_sl av).length ≤ 4) (h : ∀ G : kx_K, kx_all G Qr (cd_Jx4a65c_add_72be8 E) → G k ks 0 (lv_args 0 av) [] M) : c1t_Jx4a65c_add_72be8 E av M k ks Qr := by
  refine kx_enter (by decide) rfl hlen (own := RJx4a65c) rfl (cd := cd_Jx4a65c_add_72be8 E) ?_ h
  intro p e s m below meth c C hr hl hnm
  exact ⟨ok_iload_n C dJx4a65c_add_72be8_0 rfl,
    ok_aload_n C dJx4a65c_add_72be8_1 rfl,
    ok_qln C dJx4a65c_add_72be8_2,
    ok_ic_ne C dJx4a65c_add_72be8_3 (by decide),
    ok_aload_n C dJx4a65c_add_72be8_6 rfl,
    ok_callV C (kx_w1_rcv E) (ci := 0) (Cn := RJx4a65c) (T := TJx4a65c) (N := 3) rfl (n := 0) gJx4a65c_add_72be8_Jx4a65c_grow_d5877 rfl (by decide +kernel) ⟨Nat.le_of_ble_eq_true rfl, Nat.le_of_ble_eq_true rfl⟩ dJx4a65c_add_72be8_7,
    ok_astore_n C dJx4a65c_add_72be8_10 rfl (by decide),
    ok_aload_n C dJx4a65c_add_72be8_11 rfl,
    ok_iload_n C dJx4a65c_add_72be8_12 rfl,
    ok_aload_n C dJx4a65c_add_72be8_13 rfl,
    ok_qas C dJx4a65c_add_72be8_14,
    ok_aload_n C dJx4a65c_add_72be8_15 rfl,
    ok_iload_n C dJx4a65c_add_72be8_16 rfl,
    ok_iconst C dJx4a65c_add_72be8_17 (by decide),
    ok_iadd C dJx4a65c_add_72be8_18,
    ok_pI C (ci := 0) (k := 2) (Cn := RJx4a65c) (T := TJx4a65c) (N := 3) (index := 48) (ref := "java/util/ArrayList") (kx_w1_good E) rfl rfl (by decide) hiJx4a65c_add_72be8_0 mJx4a65c_add_72be8_0 (fun _ h9 => h9) tyJx4a65c tyJx4a65c_ok nmJx4a65c rfl (by decide +kernel) rfl dJx4a65c_add_72be8_19,
    ok_vret C hr hl dJx4a65c_add_72be8_22, trivial⟩

theorem mJx4a65c_add_9ea2d_0 : Cond.fieldLink RJx4a65c 63 "java/util/ArrayList" "modCount" "I" ∈ wsJx4a65c_add_9ea2d := by decide +kernel
theorem mJx4a65c_add_9ea2d_1 : Cond.sameField "java/util/ArrayList" "java/util/AbstractList" "modCount" "I" ∈ wsJx4a65c_add_9ea2d := by decide +kernel
theorem hiJx4a65c_add_9ea2d_0 : ∀ w ∈ u_ws RJx4a65c TJx4a65c 3, w ∈ wsJx4a65c_add_9ea2d := by decide +kernel
theorem mJx4a65c_add_9ea2d_3 : Cond.fieldLink RJx4a65c 9 "java/util/ArrayList" "elementData" "[Ljava/lang/Object;" ∈ wsJx4a65c_add_9ea2d := by decide +kernel
theorem mJx4a65c_add_9ea2d_4 : Cond.fieldLink RJx4a65c 48 "java/util/ArrayList" "size" "I" ∈ wsJx4a65c_add_9ea2d := by decide +kernel
abbrev c1t_Jx4a65c_add_9ea2d (E : kx_E) (av : List Value) (M : kx_M) (k ks : Nat) (Q : kx_Q) : Prop := kx_CT E (kx_w1 E) yJx4a65c_add_9ea2d wsJx4a65c_add_9ea2d 6 137 av M k ks Q
def cd_Jx4a65c_add_9ea2d (E : kx_E) : List (Nat × kx_T) := [
  (0, t_al 1 0),
  (1, t_dup 2),
  (2, t_gI 5 1 0),
  (5, t_push 6 (.int 1)),
  (6, t_bin 7 (fun x y => x + y)),
  (7, t_pI 10 1 0),
  (10, t_al 11 0),
  (11, t_al 12 1),
  (12, t_al 13 0),
  (13, t_gR 16 1 1),
  (16, t_al 17 0),
  (17, t_gI 20 1 2),
  (20, t_call (c1t_Jx4a65c_add_72be8 E) 23 4 1),
  (23, t_push 24 (.int 1)),
  (24, t_zret)]
set_option maxRecDepth 4000 in
theorem en_Jx4a65c_add_9ea2d (E : kx_E) {av : List Value} {M : kx_M} {k ks : Nat} {Qr : kx_Q} (hlen : (lg_sl av).length ≤ 2) (h : ∀ G : kx_K, kx_all G Qr (cd_Jx4a65c_add_9ea2d E) → G k ks 0 (lv_args 0 av) [] M) : c1t_Jx4a65c_add_9ea2d E av M k ks Qr := by
  refine kx_enter (by decide) rfl hlen (own := RJx4a65c) rfl (cd := cd_Jx4a65c_add_9ea2d E) ?_ h
  intro p e s m below meth c C hr hl hnm
  exact ⟨ok_aload_n C dJx4a65c_add_9ea2d_0 rfl,
    ok_dup C dJx4a65c_add_9ea2d_1,
    ok_gI C (ci := 0) (k := 0) (Cn := RJx4a65c) (T := TJx4a65c) (N := 3) (index := 63) (ref := "java/util/ArrayList") (kx_w1_good E) rfl rfl (by decide) hiJx4a65c_add_9ea2d_0 mJx4a65c_add_9ea2d_0 (fun x h9 => u_same (C.2.2.2.1 _ mJx4a65c_add_9ea2d_1) x h9) rfl dJx4a65c_add_9ea2d_2,
    ok_iconst C dJx4a65c_add_9ea2d_5 (by decide),
    ok_iadd C dJx4a65c_add_9ea2d_6,
    ok_pI C (ci := 0) (k := 0) (Cn := RJx4a65c) (T := TJx4a65c) (N := 3) (index := 63) (ref := "java/util/ArrayList") (kx_w1_good E) rfl rfl (by decide) hiJx4a65c_add_9ea2d_0 mJx4a65c_add_9ea2d_0 (fun x h9 => u_same (C.2.2.2.1 _ mJx4a65c_add_9ea2d_1) x h9) tyJx4a65c tyJx4a65c_ok nmJx4a65c rfl (by decide +kernel) rfl dJx4a65c_add_9ea2d_7,
    ok_aload_n C dJx4a65c_add_9ea2d_10 rfl,
    ok_aload_n C dJx4a65c_add_9ea2d_11 rfl,
    ok_aload_n C dJx4a65c_add_9ea2d_12 rfl,
    ok_gR C (ci := 0) (k := 1) (Cn := RJx4a65c) (T := TJx4a65c) (N := 3) (index := 9) (ref := "java/util/ArrayList") (kx_w1_good E) rfl rfl (by decide) hiJx4a65c_add_9ea2d_0 mJx4a65c_add_9ea2d_3 (fun _ h9 => h9) rfl dJx4a65c_add_9ea2d_13,
    ok_aload_n C dJx4a65c_add_9ea2d_16 rfl,
    ok_gI C (ci := 0) (k := 2) (Cn := RJx4a65c) (T := TJx4a65c) (N := 3) (index := 48) (ref := "java/util/ArrayList") (kx_w1_good E) rfl rfl (by decide) hiJx4a65c_add_9ea2d_0 mJx4a65c_add_9ea2d_4 (fun _ h9 => h9) rfl dJx4a65c_add_9ea2d_17,
    ok_callV C (kx_w1_rcv E) (ci := 0) (Cn := RJx4a65c) (T := TJx4a65c) (N := 3) rfl (n := 3) gJx4a65c_add_9ea2d_Jx4a65c_add_72be8 rfl (by decide +kernel) ⟨Nat.le_of_ble_eq_true rfl, Nat.le_of_ble_eq_true rfl⟩ dJx4a65c_add_9ea2d_20,
    ok_iconst C dJx4a65c_add_9ea2d_23 (by decide),
    ok_zret C hr hl dJx4a65c_add_9ea2d_24, trivial⟩

theorem mJx4a65c_fastRemove_b59b0_0 : Cond.fieldLink RJx4a65c 63 "java/util/ArrayList" "modCount" "I" ∈ wsJx4a65c_fastRemove_b59b0 := by decide +kernel
theorem mJx4a65c_fastRemove_b59b0_1 : Cond.sameField "java/util/ArrayList" "java/util/AbstractList" "modCount" "I" ∈ wsJx4a65c_fastRemove_b59b0 := by decide +kernel
theorem hiJx4a65c_fastRemove_b59b0_0 : ∀ w ∈ u_ws RJx4a65c TJx4a65c 3, w ∈ wsJx4a65c_fastRemove_b59b0 := by decide +kernel
theorem mJx4a65c_fastRemove_b59b0_3 : Cond.fieldLink RJx4a65c 48 "java/util/ArrayList" "size" "I" ∈ wsJx4a65c_fastRemove_b59b0 := by decide +kernel
theorem mJx4a65c_fastRemove_b59b0_4 : Cond.methodLink RJx4a65c 112 arraycopyName ∈ wsJx4a65c_fastRemove_b59b0 := by decide +kernel
theorem mJx4a65c_fastRemove_b59b0_5 : Cond.native arraycopyName ∈ wsJx4a65c_fastRemove_b59b0 := by decide +kernel
theorem mJx4a65c_fastRemove_b59b0_6 : Cond.static arraycopyName ∈ wsJx4a65c_fastRemove_b59b0 := by decide +kernel
theorem mJx4a65c_fastRemove_b59b0_7 : Cond.initialized "java/lang/System" ∈ wsJx4a65c_fastRemove_b59b0 := by decide +kernel
abbrev c1t_Jx4a65c_fastRemove_b59b0 (E : kx_E) (av : List Value) (M : kx_M) (k ks : Nat) (Q : kx_Q) : Prop := kx_CT E (kx_w1 E) yJx4a65c_fastRemove_b59b0 wsJx4a65c_fastRemove_b59b0 1 27 av M k ks Q
def cd_Jx4a65c_fastRemove_b59b0 (E : kx_E) : List (Nat × kx_T) := [
  (0, t_al 1 0),
  (1, t_dup 2),
  (2, t_gI 5 1 0),
  (5, t_push 6 (.int 1)),
  (6, t_bin 7 (fun x y => x + y)),
  (7, t_pI 10 1 0),
  (10, t_al 11 0),
  (11, t_gI 14 1 2),
  (14, t_push 15 (.int 1)),
  (15, t_bin 16 (fun x y => x - y)),
  (16, t_dup 17),
  (17, t_is 18 3),
  (18, t_il 19 2),
  (19, t_ic 22 34 (fun x y => x ≤ y)),
  (22, t_al 23 1),
  (23, t_il 24 2),
  (24, t_push 25 (.int 1)),
  (25, t_bin 26 (fun x y => x + y)),
  (26, t_al 27 1),
  (27, t_il 28 2),
  (28, t_il 29 3),
  (29, t_il 30 2),
  (30, t_bin 31 (fun x y => x - y)),
  (31, t_acp E 34),
  (34, t_al 35 1),
  (35, t_al 36 0),
  (36, t_il 37 3),
  (37, t_dupx 38),
  (38, t_pI 41 1 2),
  (41, t_push 42 .null),
  (42, t_qas 43),
  (43, t_vret)]
set_option maxRecDepth 4000 in
theorem en_Jx4a65c_fastRemove_b59b0 (E : kx_E) {av : List Value} {M : kx_M} {k ks : Nat} {Qr : kx_Q} (hlen : (lg_sl av).length ≤ 4) (h : ∀ G : kx_K, kx_all G Qr (cd_Jx4a65c_fastRemove_b59b0 E) → G k ks 0 (lv_args 0 av) [] M) : c1t_Jx4a65c_fastRemove_b59b0 E av M k ks Qr := by
  refine kx_enter (by decide) rfl hlen (own := RJx4a65c) rfl (cd := cd_Jx4a65c_fastRemove_b59b0 E) ?_ h
  intro p e s m below meth c C hr hl hnm
  exact ⟨ok_aload_n C dJx4a65c_fastRemove_b59b0_0 rfl,
    ok_dup C dJx4a65c_fastRemove_b59b0_1,
    ok_gI C (ci := 0) (k := 0) (Cn := RJx4a65c) (T := TJx4a65c) (N := 3) (index := 63) (ref := "java/util/ArrayList") (kx_w1_good E) rfl rfl (by decide) hiJx4a65c_fastRemove_b59b0_0 mJx4a65c_fastRemove_b59b0_0 (fun x h9 => u_same (C.2.2.2.1 _ mJx4a65c_fastRemove_b59b0_1) x h9) rfl dJx4a65c_fastRemove_b59b0_2,
    ok_iconst C dJx4a65c_fastRemove_b59b0_5 (by decide),
    ok_iadd C dJx4a65c_fastRemove_b59b0_6,
    ok_pI C (ci := 0) (k := 0) (Cn := RJx4a65c) (T := TJx4a65c) (N := 3) (index := 63) (ref := "java/util/ArrayList") (kx_w1_good E) rfl rfl (by decide) hiJx4a65c_fastRemove_b59b0_0 mJx4a65c_fastRemove_b59b0_0 (fun x h9 => u_same (C.2.2.2.1 _ mJx4a65c_fastRemove_b59b0_1) x h9) tyJx4a65c tyJx4a65c_ok nmJx4a65c rfl (by decide +kernel) rfl dJx4a65c_fastRemove_b59b0_7,
    ok_aload_n C dJx4a65c_fastRemove_b59b0_10 rfl,
    ok_gI C (ci := 0) (k := 2) (Cn := RJx4a65c) (T := TJx4a65c) (N := 3) (index := 48) (ref := "java/util/ArrayList") (kx_w1_good E) rfl rfl (by decide) hiJx4a65c_fastRemove_b59b0_0 mJx4a65c_fastRemove_b59b0_3 (fun _ h9 => h9) rfl dJx4a65c_fastRemove_b59b0_11,
    ok_iconst C dJx4a65c_fastRemove_b59b0_14 (by decide),
    ok_isub C dJx4a65c_fastRemove_b59b0_15,
    ok_dup C dJx4a65c_fastRemove_b59b0_16,
    ok_istore_n C dJx4a65c_fastRemove_b59b0_17 rfl (by decide),
    ok_iload_n C dJx4a65c_fastRemove_b59b0_18 rfl,
    ok_ic_le C dJx4a65c_fastRemove_b59b0_19 (by decide),
    ok_aload_n C dJx4a65c_fastRemove_b59b0_22 rfl,
    ok_iload_n C dJx4a65c_fastRemove_b59b0_23 rfl,
    ok_iconst C dJx4a65c_fastRemove_b59b0_24 (by decide),
    ok_iadd C dJx4a65c_fastRemove_b59b0_25,
    ok_aload_n C dJx4a65c_fastRemove_b59b0_26 rfl,
    ok_iload_n C dJx4a65c_fastRemove_b59b0_27 rfl,
    ok_iload_n C dJx4a65c_fastRemove_b59b0_28 rfl,
    ok_iload_n C dJx4a65c_fastRemove_b59b0_29 rfl,
    ok_isub C dJx4a65c_fastRemove_b59b0_30,
    ok_acp C mJx4a65c_fastRemove_b59b0_4 mJx4a65c_fastRemove_b59b0_5 mJx4a65c_fastRemove_b59b0_6 mJx4a65c_fastRemove_b59b0_7 ⟨Nat.le_of_ble_eq_true rfl, (show 8 + (nativeFrameWords "java/lang/System" "arraycopy" 5 + 11) ≤ 27 by decide)⟩ dJx4a65c_fastRemove_b59b0_31,
    ok_aload_n C dJx4a65c_fastRemove_b59b0_34 rfl,
    ok_aload_n C dJx4a65c_fastRemove_b59b0_35 rfl,
    ok_iload_n C dJx4a65c_fastRemove_b59b0_36 rfl,
    ok_dup_x1 C dJx4a65c_fastRemove_b59b0_37,
    ok_pI C (ci := 0) (k := 2) (Cn := RJx4a65c) (T := TJx4a65c) (N := 3) (index := 48) (ref := "java/util/ArrayList") (kx_w1_good E) rfl rfl (by decide) hiJx4a65c_fastRemove_b59b0_0 mJx4a65c_fastRemove_b59b0_3 (fun _ h9 => h9) tyJx4a65c tyJx4a65c_ok nmJx4a65c rfl (by decide +kernel) rfl dJx4a65c_fastRemove_b59b0_38,
    ok_null C dJx4a65c_fastRemove_b59b0_41,
    ok_qas C dJx4a65c_fastRemove_b59b0_42,
    ok_vret C hr hl dJx4a65c_fastRemove_b59b0_43, trivial⟩

theorem mJx4a65c_remove_915e3_0 : Cond.fieldLink RJx4a65c 48 "java/util/ArrayList" "size" "I" ∈ wsJx4a65c_remove_915e3 := by decide +kernel
theorem hiJx4a65c_remove_915e3_0 : ∀ w ∈ u_ws RJx4a65c TJx4a65c 3, w ∈ wsJx4a65c_remove_915e3 := by decide +kernel
theorem mJx4a65c_remove_915e3_2 : Cond.static yJ15_checkIndex_7cf53 ∈ wsJx4a65c_remove_915e3 := by decide +kernel
theorem mJx4a65c_remove_915e3_3 : Cond.methodLink RJx4a65c 118 yJ15_checkIndex_7cf53 ∈ wsJx4a65c_remove_915e3 := by decide +kernel
theorem mJx4a65c_remove_915e3_4 : Cond.initialized RJ15 ∈ wsJx4a65c_remove_915e3 := by decide +kernel
theorem mJx4a65c_remove_915e3_5 : Cond.fieldLink RJx4a65c 9 "java/util/ArrayList" "elementData" "[Ljava/lang/Object;" ∈ wsJx4a65c_remove_915e3 := by decide +kernel
abbrev c1t_Jx4a65c_remove_915e3 (E : kx_E) (av : List Value) (M : kx_M) (k ks : Nat) (Q : kx_Q) : Prop := kx_CT E (kx_w1 E) yJx4a65c_remove_915e3 wsJx4a65c_remove_915e3 2 50 av M k ks Q
def cd_Jx4a65c_remove_915e3 (E : kx_E) : List (Nat × kx_T) := [
  (0, t_il 1 1),
  (1, t_al 2 0),
  (2, t_gI 5 1 2),
  (5, t_call (c1t_J15_checkIndex_7cf53 E) 8 2 0),
  (8, t_pop 9),
  (9, t_al 10 0),
  (10, t_gR 13 1 1),
  (13, t_as 14 2),
  (14, t_al 15 2),
  (15, t_il 16 1),
  (16, t_qal 17),
  (17, t_as 18 3),
  (18, t_al 19 0),
  (19, t_al 20 2),
  (20, t_il 21 1),
  (21, t_call (c1t_Jx4a65c_fastRemove_b59b0 E) 24 3 1),
  (24, t_al 25 3),
  (25, t_aret)]
set_option maxRecDepth 4000 in
theorem en_Jx4a65c_remove_915e3 (E : kx_E) {av : List Value} {M : kx_M} {k ks : Nat} {Qr : kx_Q} (hlen : (lg_sl av).length ≤ 4) (h : ∀ G : kx_K, kx_all G Qr (cd_Jx4a65c_remove_915e3 E) → G k ks 0 (lv_args 0 av) [] M) : c1t_Jx4a65c_remove_915e3 E av M k ks Qr := by
  refine kx_enter (by decide) rfl hlen (own := RJx4a65c) rfl (cd := cd_Jx4a65c_remove_915e3 E) ?_ h
  intro p e s m below meth c C hr hl hnm
  exact ⟨ok_iload_n C dJx4a65c_remove_915e3_0 rfl,
    ok_aload_n C dJx4a65c_remove_915e3_1 rfl,
    ok_gI C (ci := 0) (k := 2) (Cn := RJx4a65c) (T := TJx4a65c) (N := 3) (index := 48) (ref := "java/util/ArrayList") (kx_w1_good E) rfl rfl (by decide) hiJx4a65c_remove_915e3_0 mJx4a65c_remove_915e3_0 (fun _ h9 => h9) rfl dJx4a65c_remove_915e3_2,
    ok_callT C (n := 2) ggJx4a65c_remove_915e3_J15_checkIndex_7cf53 mJx4a65c_remove_915e3_2 mJx4a65c_remove_915e3_3 mJx4a65c_remove_915e3_4 rfl (by decide +kernel) ⟨Nat.le_of_ble_eq_true rfl, Nat.le_of_ble_eq_true rfl⟩ dJx4a65c_remove_915e3_5,
    ok_pop C dJx4a65c_remove_915e3_8,
    ok_aload_n C dJx4a65c_remove_915e3_9 rfl,
    ok_gR C (ci := 0) (k := 1) (Cn := RJx4a65c) (T := TJx4a65c) (N := 3) (index := 9) (ref := "java/util/ArrayList") (kx_w1_good E) rfl rfl (by decide) hiJx4a65c_remove_915e3_0 mJx4a65c_remove_915e3_5 (fun _ h9 => h9) rfl dJx4a65c_remove_915e3_10,
    ok_astore_n C dJx4a65c_remove_915e3_13 rfl (by decide),
    ok_aload_n C dJx4a65c_remove_915e3_14 rfl,
    ok_iload_n C dJx4a65c_remove_915e3_15 rfl,
    ok_qal C dJx4a65c_remove_915e3_16,
    ok_astore_n C dJx4a65c_remove_915e3_17 rfl (by decide),
    ok_aload_n C dJx4a65c_remove_915e3_18 rfl,
    ok_aload_n C dJx4a65c_remove_915e3_19 rfl,
    ok_iload_n C dJx4a65c_remove_915e3_20 rfl,
    ok_callV C (kx_w1_rcv E) (ci := 0) (Cn := RJx4a65c) (T := TJx4a65c) (N := 3) rfl (n := 2) gJx4a65c_remove_915e3_Jx4a65c_fastRemove_b59b0 rfl (by decide +kernel) ⟨Nat.le_of_ble_eq_true rfl, Nat.le_of_ble_eq_true rfl⟩ dJx4a65c_remove_915e3_21,
    ok_aload_n C dJx4a65c_remove_915e3_24 rfl,
    ok_aret C hr (Or.inl ⟨_, rfl⟩) hl dJx4a65c_remove_915e3_25, trivial⟩
