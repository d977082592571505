theorem lo_X2_isAhead_0 (E : kx_E) : kx_look 0 (cd_X2_isAhead E) = t_al 1 0 := funext fun _ => rfl
theorem lo_X2_isAhead_1 (E : kx_E) : kx_look 1 (cd_X2_isAhead E) = t_al 2 1 := funext fun _ => rfl
theorem lo_X2_isAhead_2 (E : kx_E) : kx_look 2 (cd_X2_isAhead E) = t_fun (f2_X2_stampOf E) 0 0 5 2 := funext fun _ => rfl
theorem lo_X2_isAhead_5 (E : kx_E) : kx_look 5 (cd_X2_isAhead E) = t_is 6 3 := funext fun _ => rfl
theorem lo_X2_isAhead_6 (E : kx_E) : kx_look 6 (cd_X2_isAhead E) = t_al 7 0 := funext fun _ => rfl
theorem lo_X2_isAhead_7 (E : kx_E) : kx_look 7 (cd_X2_isAhead E) = t_al 8 2 := funext fun _ => rfl
theorem lo_X2_isAhead_8 (E : kx_E) : kx_look 8 (cd_X2_isAhead E) = t_fun (f2_X2_stampOf E) 0 0 11 2 := funext fun _ => rfl
theorem lo_X2_isAhead_11 (E : kx_E) : kx_look 11 (cd_X2_isAhead E) = t_is 13 4 := funext fun _ => rfl
theorem lo_X2_isAhead_13 (E : kx_E) : kx_look 13 (cd_X2_isAhead E) = t_il 14 3 := funext fun _ => rfl
theorem lo_X2_isAhead_14 (E : kx_E) : kx_look 14 (cd_X2_isAhead E) = t_il 16 4 := funext fun _ => rfl
theorem lo_X2_isAhead_16 (E : kx_E) : kx_look 16 (cd_X2_isAhead E) = t_ic 19 42 (fun x y => x < y) := funext fun _ => rfl
theorem lo_X2_isAhead_19 (E : kx_E) : kx_look 19 (cd_X2_isAhead E) = t_il 20 3 := funext fun _ => rfl
theorem lo_X2_isAhead_20 (E : kx_E) : kx_look 20 (cd_X2_isAhead E) = t_il 22 4 := funext fun _ => rfl
theorem lo_X2_isAhead_22 (E : kx_E) : kx_look 22 (cd_X2_isAhead E) = t_ic 25 46 (fun x y => x ≠ y) := funext fun _ => rfl
theorem lo_X2_isAhead_25 (E : kx_E) : kx_look 25 (cd_X2_isAhead E) = t_al 26 1 := funext fun _ => rfl
theorem lo_X2_isAhead_26 (E : kx_E) : kx_look 26 (cd_X2_isAhead E) = t_gR 29 8 140 := funext fun _ => rfl
theorem lo_X2_isAhead_29 (E : kx_E) : kx_look 29 (cd_X2_isAhead E) = t_gI 32 2 20 := funext fun _ => rfl
theorem lo_X2_isAhead_32 (E : kx_E) : kx_look 32 (cd_X2_isAhead E) = t_al 33 2 := funext fun _ => rfl
theorem lo_X2_isAhead_33 (E : kx_E) : kx_look 33 (cd_X2_isAhead E) = t_gR 36 8 140 := funext fun _ => rfl
theorem lo_X2_isAhead_36 (E : kx_E) : kx_look 36 (cd_X2_isAhead E) = t_gI 39 2 20 := funext fun _ => rfl
theorem lo_X2_isAhead_39 (E : kx_E) : kx_look 39 (cd_X2_isAhead E) = t_ic 42 46 (fun x y => y ≤ x) := funext fun _ => rfl
theorem lo_X2_isAhead_42 (E : kx_E) : kx_look 42 (cd_X2_isAhead E) = t_push 43 (.int 1) := funext fun _ => rfl
theorem lo_X2_isAhead_43 (E : kx_E) : kx_look 43 (cd_X2_isAhead E) = t_go 47 := funext fun _ => rfl
theorem lo_X2_isAhead_46 (E : kx_E) : kx_look 46 (cd_X2_isAhead E) = t_push 47 (.int 0) := funext fun _ => rfl
theorem lo_X2_isAhead_47 (E : kx_E) : kx_look 47 (cd_X2_isAhead E) = t_zret := funext fun _ => rfl
theorem lo_X2_take_0 (E : kx_E) : kx_look 0 (cd_X2_take E) = t_il 1 2 := funext fun _ => rfl
theorem lo_X2_take_1 (E : kx_E) : kx_look 1 (cd_X2_take E) = t_fun (f2_X9_bucketsFor E) 0 0 4 1 := funext fun _ => rfl
theorem lo_X2_take_4 (E : kx_E) : kx_look 4 (cd_X2_take E) = t_al 5 0 := funext fun _ => rfl
theorem lo_X2_take_5 (E : kx_E) : kx_look 5 (cd_X2_take E) = t_gI 8 4 67 := funext fun _ => rfl
theorem lo_X2_take_8 (E : kx_E) : kx_look 8 (cd_X2_take E) = t_mm 11 (fun x y => if y < x then y else x) := funext fun _ => rfl
theorem lo_X2_take_11 (E : kx_E) : kx_look 11 (cd_X2_take E) = t_is 13 4 := funext fun _ => rfl
theorem lo_X2_take_13 (E : kx_E) : kx_look 13 (cd_X2_take E) = t_al 14 0 := funext fun _ => rfl
theorem lo_X2_take_14 (E : kx_E) : kx_look 14 (cd_X2_take E) = t_il 15 2 := funext fun _ => rfl
theorem lo_X2_take_15 (E : kx_E) : kx_look 15 (cd_X2_take E) = t_pI 18 4 68 := funext fun _ => rfl
theorem lo_X2_take_18 (E : kx_E) : kx_look 18 (cd_X2_take E) = t_al 19 0 := funext fun _ => rfl
theorem lo_X2_take_19 (E : kx_E) : kx_look 19 (cd_X2_take E) = t_il 20 3 := funext fun _ => rfl
theorem lo_X2_take_20 (E : kx_E) : kx_look 20 (cd_X2_take E) = t_pI 23 4 69 := funext fun _ => rfl
theorem lo_X2_take_23 (E : kx_E) : kx_look 23 (cd_X2_take E) = t_al 24 1 := funext fun _ => rfl
theorem lo_X2_take_24 (E : kx_E) : kx_look 24 (cd_X2_take E) = t_dup 25 := funext fun _ => rfl
theorem lo_X2_take_25 (E : kx_E) : kx_look 25 (cd_X2_take E) = t_gI 28 8 147 := funext fun _ => rfl
theorem lo_X2_take_28 (E : kx_E) : kx_look 28 (cd_X2_take E) = t_il 29 2 := funext fun _ => rfl
theorem lo_X2_take_29 (E : kx_E) : kx_look 29 (cd_X2_take E) = t_bin 30 (fun x y => x - y) := funext fun _ => rfl
theorem lo_X2_take_30 (E : kx_E) : kx_look 30 (cd_X2_take E) = t_pI 33 8 147 := funext fun _ => rfl
theorem lo_X2_take_33 (E : kx_E) : kx_look 33 (cd_X2_take E) = t_al 34 1 := funext fun _ => rfl
theorem lo_X2_take_34 (E : kx_E) : kx_look 34 (cd_X2_take E) = t_gR 37 8 140 := funext fun _ => rfl
theorem lo_X2_take_37 (E : kx_E) : kx_look 37 (cd_X2_take E) = t_dup 38 := funext fun _ => rfl
theorem lo_X2_take_38 (E : kx_E) : kx_look 38 (cd_X2_take E) = t_gI 41 2 28 := funext fun _ => rfl
theorem lo_X2_take_41 (E : kx_E) : kx_look 41 (cd_X2_take E) = t_il 42 3 := funext fun _ => rfl
theorem lo_X2_take_42 (E : kx_E) : kx_look 42 (cd_X2_take E) = t_il 43 2 := funext fun _ => rfl
theorem lo_X2_take_43 (E : kx_E) : kx_look 43 (cd_X2_take E) = t_bin 44 (fun x y => x * y) := funext fun _ => rfl
theorem lo_X2_take_44 (E : kx_E) : kx_look 44 (cd_X2_take E) = t_push 45 (.int 2) := funext fun _ => rfl
theorem lo_X2_take_45 (E : kx_E) : kx_look 45 (cd_X2_take E) = t_il 47 4 := funext fun _ => rfl
theorem lo_X2_take_47 (E : kx_E) : kx_look 47 (cd_X2_take E) = t_bin 48 (fun x y => x * y) := funext fun _ => rfl
theorem lo_X2_take_48 (E : kx_E) : kx_look 48 (cd_X2_take E) = t_bin 49 (fun x y => x + y) := funext fun _ => rfl
theorem lo_X2_take_49 (E : kx_E) : kx_look 49 (cd_X2_take E) = t_bin 50 (fun x y => x - y) := funext fun _ => rfl
theorem lo_X2_take_50 (E : kx_E) : kx_look 50 (cd_X2_take E) = t_pI 53 2 28 := funext fun _ => rfl
theorem lo_X2_take_53 (E : kx_E) : kx_look 53 (cd_X2_take E) = t_al 54 0 := funext fun _ => rfl
theorem lo_X2_take_54 (E : kx_E) : kx_look 54 (cd_X2_take E) = t_dup 55 := funext fun _ => rfl
theorem lo_X2_take_55 (E : kx_E) : kx_look 55 (cd_X2_take E) = t_gI 58 4 66 := funext fun _ => rfl
theorem lo_X2_take_58 (E : kx_E) : kx_look 58 (cd_X2_take E) = t_il 59 2 := funext fun _ => rfl
theorem lo_X2_take_59 (E : kx_E) : kx_look 59 (cd_X2_take E) = t_bin 60 (fun x y => x - y) := funext fun _ => rfl
theorem lo_X2_take_60 (E : kx_E) : kx_look 60 (cd_X2_take E) = t_pI 63 4 66 := funext fun _ => rfl
theorem lo_X2_take_63 (E : kx_E) : kx_look 63 (cd_X2_take E) = t_al 64 0 := funext fun _ => rfl
theorem lo_X2_take_64 (E : kx_E) : kx_look 64 (cd_X2_take E) = t_dup 65 := funext fun _ => rfl
theorem lo_X2_take_65 (E : kx_E) : kx_look 65 (cd_X2_take E) = t_gI 68 4 67 := funext fun _ => rfl
theorem lo_X2_take_68 (E : kx_E) : kx_look 68 (cd_X2_take E) = t_il 70 4 := funext fun _ => rfl
theorem lo_X2_take_70 (E : kx_E) : kx_look 70 (cd_X2_take E) = t_bin 71 (fun x y => x - y) := funext fun _ => rfl
theorem lo_X2_take_71 (E : kx_E) : kx_look 71 (cd_X2_take E) = t_pI 74 4 67 := funext fun _ => rfl
theorem lo_X2_take_74 (E : kx_E) : kx_look 74 (cd_X2_take E) = t_al 75 0 := funext fun _ => rfl
theorem lo_X2_take_75 (E : kx_E) : kx_look 75 (cd_X2_take E) = t_push 77 (.int 99) := funext fun _ => rfl
theorem lo_X2_take_77 (E : kx_E) : kx_look 77 (cd_X2_take E) = t_il 78 3 := funext fun _ => rfl
theorem lo_X2_take_78 (E : kx_E) : kx_look 78 (cd_X2_take E) = t_push 80 (.int 10) := funext fun _ => rfl
theorem lo_X2_take_80 (E : kx_E) : kx_look 80 (cd_X2_take E) = t_bin 81 (fun x y => x + y) := funext fun _ => rfl
theorem lo_X2_take_81 (E : kx_E) : kx_look 81 (cd_X2_take E) = t_mm 84 (fun x y => if y < x then y else x) := funext fun _ => rfl
theorem lo_X2_take_84 (E : kx_E) : kx_look 84 (cd_X2_take E) = t_pI 87 4 65 := funext fun _ => rfl
theorem lo_X2_take_87 (E : kx_E) : kx_look 87 (cd_X2_take E) = t_vret := funext fun _ => rfl
theorem lo_X3_growBy_0 (E : kx_E) : kx_look 0 (cd_X3_growBy E) = t_al 1 0 := funext fun _ => rfl
theorem lo_X3_growBy_1 (E : kx_E) : kx_look 1 (cd_X3_growBy E) = t_dup 2 := funext fun _ => rfl
theorem lo_X3_growBy_2 (E : kx_E) : kx_look 2 (cd_X3_growBy E) = t_gI 5 5 84 := funext fun _ => rfl
theorem lo_X3_growBy_5 (E : kx_E) : kx_look 5 (cd_X3_growBy E) = t_il 6 1 := funext fun _ => rfl
theorem lo_X3_growBy_6 (E : kx_E) : kx_look 6 (cd_X3_growBy E) = t_bin 7 (fun x y => x + y) := funext fun _ => rfl
theorem lo_X3_growBy_7 (E : kx_E) : kx_look 7 (cd_X3_growBy E) = t_pI 10 5 84 := funext fun _ => rfl
theorem lo_X3_growBy_10 (E : kx_E) : kx_look 10 (cd_X3_growBy E) = t_al 11 0 := funext fun _ => rfl
theorem lo_X3_growBy_11 (E : kx_E) : kx_look 11 (cd_X3_growBy E) = t_gI 14 5 85 := funext fun _ => rfl
theorem lo_X3_growBy_14 (E : kx_E) : kx_look 14 (cd_X3_growBy E) = t_if 17 27 (fun x => x = 0) := funext fun _ => rfl
theorem lo_X3_growBy_17 (E : kx_E) : kx_look 17 (cd_X3_growBy E) = t_al 18 0 := funext fun _ => rfl
theorem lo_X3_growBy_18 (E : kx_E) : kx_look 18 (cd_X3_growBy E) = t_dup 19 := funext fun _ => rfl
theorem lo_X3_growBy_19 (E : kx_E) : kx_look 19 (cd_X3_growBy E) = t_gI 22 5 86 := funext fun _ => rfl
theorem lo_X3_growBy_22 (E : kx_E) : kx_look 22 (cd_X3_growBy E) = t_push 23 (.int 1) := funext fun _ => rfl
theorem lo_X3_growBy_23 (E : kx_E) : kx_look 23 (cd_X3_growBy E) = t_bin 24 (fun x y => x + y) := funext fun _ => rfl
theorem lo_X3_growBy_24 (E : kx_E) : kx_look 24 (cd_X3_growBy E) = t_pI 27 5 86 := funext fun _ => rfl
theorem lo_X3_growBy_27 (E : kx_E) : kx_look 27 (cd_X3_growBy E) = t_al 28 0 := funext fun _ => rfl
theorem lo_X3_growBy_28 (E : kx_E) : kx_look 28 (cd_X3_growBy E) = t_al 29 0 := funext fun _ => rfl
theorem lo_X3_growBy_29 (E : kx_E) : kx_look 29 (cd_X3_growBy E) = t_gI 32 5 85 := funext fun _ => rfl
theorem lo_X3_growBy_32 (E : kx_E) : kx_look 32 (cd_X3_growBy E) = t_if 35 49 (fun x => x ≠ 0) := funext fun _ => rfl
theorem lo_X3_growBy_35 (E : kx_E) : kx_look 35 (cd_X3_growBy E) = t_al 36 0 := funext fun _ => rfl
theorem lo_X3_growBy_36 (E : kx_E) : kx_look 36 (cd_X3_growBy E) = t_gI 39 5 84 := funext fun _ => rfl
theorem lo_X3_growBy_39 (E : kx_E) : kx_look 39 (cd_X3_growBy E) = t_al 40 0 := funext fun _ => rfl
theorem lo_X3_growBy_40 (E : kx_E) : kx_look 40 (cd_X3_growBy E) = t_gI 43 5 82 := funext fun _ => rfl
theorem lo_X3_growBy_43 (E : kx_E) : kx_look 43 (cd_X3_growBy E) = t_fun (f2_X9_sumAsked E) 0 0 46 1 := funext fun _ => rfl
theorem lo_X3_growBy_46 (E : kx_E) : kx_look 46 (cd_X3_growBy E) = t_ic 49 53 (fun x y => x < y) := funext fun _ => rfl
theorem lo_X3_growBy_49 (E : kx_E) : kx_look 49 (cd_X3_growBy E) = t_push 50 (.int 1) := funext fun _ => rfl
theorem lo_X3_growBy_50 (E : kx_E) : kx_look 50 (cd_X3_growBy E) = t_go 54 := funext fun _ => rfl
theorem lo_X3_growBy_53 (E : kx_E) : kx_look 53 (cd_X3_growBy E) = t_push 54 (.int 0) := funext fun _ => rfl
theorem lo_X3_growBy_54 (E : kx_E) : kx_look 54 (cd_X3_growBy E) = t_pZ 57 5 85 := funext fun _ => rfl
theorem lo_X3_growBy_57 (E : kx_E) : kx_look 57 (cd_X3_growBy E) = t_vret := funext fun _ => rfl
theorem lo_X5_init_0 (E : kx_E) : kx_look 0 (cd_X5_init E) = t_al 1 0 := funext fun _ => rfl
theorem lo_X5_init_1 (E : kx_E) : kx_look 1 (cd_X5_init E) = t_oin 4 := funext fun _ => rfl
theorem lo_X5_init_4 (E : kx_E) : kx_look 4 (cd_X5_init E) = t_al 5 0 := funext fun _ => rfl
theorem lo_X5_init_5 (E : kx_E) : kx_look 5 (cd_X5_init E) = t_push 6 (.int 1) := funext fun _ => rfl
theorem lo_X5_init_6 (E : kx_E) : kx_look 6 (cd_X5_init E) = t_pI 9 7 128 := funext fun _ => rfl
theorem lo_X5_init_9 (E : kx_E) : kx_look 9 (cd_X5_init E) = t_al 10 0 := funext fun _ => rfl
theorem lo_X5_init_10 (E : kx_E) : kx_look 10 (cd_X5_init E) = t_push 11 (.int 0) := funext fun _ => rfl
theorem lo_X5_init_11 (E : kx_E) : kx_look 11 (cd_X5_init E) = t_pI 14 7 129 := funext fun _ => rfl
theorem lo_X5_init_14 (E : kx_E) : kx_look 14 (cd_X5_init E) = t_al 15 0 := funext fun _ => rfl
theorem lo_X5_init_15 (E : kx_E) : kx_look 15 (cd_X5_init E) = t_push 16 (.int (-1)) := funext fun _ => rfl
theorem lo_X5_init_16 (E : kx_E) : kx_look 16 (cd_X5_init E) = t_pI 19 7 130 := funext fun _ => rfl
theorem lo_X5_init_19 (E : kx_E) : kx_look 19 (cd_X5_init E) = t_al 20 0 := funext fun _ => rfl
theorem lo_X5_init_20 (E : kx_E) : kx_look 20 (cd_X5_init E) = t_push 21 (.int (-1)) := funext fun _ => rfl
theorem lo_X5_init_21 (E : kx_E) : kx_look 21 (cd_X5_init E) = t_pI 24 7 131 := funext fun _ => rfl
theorem lo_X5_init_24 (E : kx_E) : kx_look 24 (cd_X5_init E) = t_al 25 0 := funext fun _ => rfl
theorem lo_X5_init_25 (E : kx_E) : kx_look 25 (cd_X5_init E) = t_il 26 1 := funext fun _ => rfl
theorem lo_X5_init_26 (E : kx_E) : kx_look 26 (cd_X5_init E) = t_pI 29 7 120 := funext fun _ => rfl
theorem lo_X5_init_29 (E : kx_E) : kx_look 29 (cd_X5_init E) = t_al 30 0 := funext fun _ => rfl
theorem lo_X5_init_30 (E : kx_E) : kx_look 30 (cd_X5_init E) = t_al 31 2 := funext fun _ => rfl
theorem lo_X5_init_31 (E : kx_E) : kx_look 31 (cd_X5_init E) = t_gR 34 5 80 := funext fun _ => rfl
theorem lo_X5_init_34 (E : kx_E) : kx_look 34 (cd_X5_init E) = t_pR 37 7 121 := funext fun _ => rfl
theorem lo_X5_init_37 (E : kx_E) : kx_look 37 (cd_X5_init E) = t_al 38 0 := funext fun _ => rfl
theorem lo_X5_init_38 (E : kx_E) : kx_look 38 (cd_X5_init E) = t_al 39 2 := funext fun _ => rfl
theorem lo_X5_init_39 (E : kx_E) : kx_look 39 (cd_X5_init E) = t_gI 42 5 81 := funext fun _ => rfl
theorem lo_X5_init_42 (E : kx_E) : kx_look 42 (cd_X5_init E) = t_pI 45 7 122 := funext fun _ => rfl
theorem lo_X5_init_45 (E : kx_E) : kx_look 45 (cd_X5_init E) = t_al 46 0 := funext fun _ => rfl
theorem lo_X5_init_46 (E : kx_E) : kx_look 46 (cd_X5_init E) = t_al 47 2 := funext fun _ => rfl
theorem lo_X5_init_47 (E : kx_E) : kx_look 47 (cd_X5_init E) = t_gI 50 5 82 := funext fun _ => rfl
theorem lo_X5_init_50 (E : kx_E) : kx_look 50 (cd_X5_init E) = t_pI 53 7 123 := funext fun _ => rfl
theorem lo_X5_init_53 (E : kx_E) : kx_look 53 (cd_X5_init E) = t_al 54 0 := funext fun _ => rfl
theorem lo_X5_init_54 (E : kx_E) : kx_look 54 (cd_X5_init E) = t_al 55 2 := funext fun _ => rfl
theorem lo_X5_init_55 (E : kx_E) : kx_look 55 (cd_X5_init E) = t_gI 58 5 86 := funext fun _ => rfl
theorem lo_X5_init_58 (E : kx_E) : kx_look 58 (cd_X5_init E) = t_push 60 (.int 10) := funext fun _ => rfl
theorem lo_X5_init_60 (E : kx_E) : kx_look 60 (cd_X5_init E) = t_ic 63 67 (fun x y => y < x) := funext fun _ => rfl
theorem lo_X5_init_63 (E : kx_E) : kx_look 63 (cd_X5_init E) = t_push 64 (.int 0) := funext fun _ => rfl
theorem lo_X5_init_64 (E : kx_E) : kx_look 64 (cd_X5_init E) = t_go 81 := funext fun _ => rfl
theorem lo_X5_init_67 (E : kx_E) : kx_look 67 (cd_X5_init E) = t_al 68 2 := funext fun _ => rfl
theorem lo_X5_init_68 (E : kx_E) : kx_look 68 (cd_X5_init E) = t_gI 71 5 86 := funext fun _ => rfl
theorem lo_X5_init_71 (E : kx_E) : kx_look 71 (cd_X5_init E) = t_push 73 (.int 20) := funext fun _ => rfl
theorem lo_X5_init_73 (E : kx_E) : kx_look 73 (cd_X5_init E) = t_ic 76 80 (fun x y => y < x) := funext fun _ => rfl
theorem lo_X5_init_76 (E : kx_E) : kx_look 76 (cd_X5_init E) = t_push 77 (.int 1) := funext fun _ => rfl
theorem lo_X5_init_77 (E : kx_E) : kx_look 77 (cd_X5_init E) = t_go 81 := funext fun _ => rfl
theorem lo_X5_init_80 (E : kx_E) : kx_look 80 (cd_X5_init E) = t_push 81 (.int 2) := funext fun _ => rfl
theorem lo_X5_init_81 (E : kx_E) : kx_look 81 (cd_X5_init E) = t_pI 84 7 124 := funext fun _ => rfl
theorem lo_X5_init_84 (E : kx_E) : kx_look 84 (cd_X5_init E) = t_al 85 0 := funext fun _ => rfl
theorem lo_X5_init_85 (E : kx_E) : kx_look 85 (cd_X5_init E) = t_il 86 3 := funext fun _ => rfl
theorem lo_X5_init_86 (E : kx_E) : kx_look 86 (cd_X5_init E) = t_pI 89 7 125 := funext fun _ => rfl
theorem lo_X5_init_89 (E : kx_E) : kx_look 89 (cd_X5_init E) = t_al 90 0 := funext fun _ => rfl
theorem lo_X5_init_90 (E : kx_E) : kx_look 90 (cd_X5_init E) = t_push 91 (.int 0) := funext fun _ => rfl
theorem lo_X5_init_91 (E : kx_E) : kx_look 91 (cd_X5_init E) = t_al 92 2 := funext fun _ => rfl
theorem lo_X5_init_92 (E : kx_E) : kx_look 92 (cd_X5_init E) = t_gI 95 5 82 := funext fun _ => rfl
theorem lo_X5_init_95 (E : kx_E) : kx_look 95 (cd_X5_init E) = t_fun (f2_X9_freshLife E) 0 0 98 1 := funext fun _ => rfl
theorem lo_X5_init_98 (E : kx_E) : kx_look 98 (cd_X5_init E) = t_push 99 (.int 2) := funext fun _ => rfl
theorem lo_X5_init_99 (E : kx_E) : kx_look 99 (cd_X5_init E) = t_al 100 2 := funext fun _ => rfl
theorem lo_X5_init_100 (E : kx_E) : kx_look 100 (cd_X5_init E) = t_gI 103 5 86 := funext fun _ => rfl
theorem lo_X5_init_103 (E : kx_E) : kx_look 103 (cd_X5_init E) = t_bin 104 (fun x y => x * y) := funext fun _ => rfl
theorem lo_X5_init_104 (E : kx_E) : kx_look 104 (cd_X5_init E) = t_bin 105 (fun x y => x - y) := funext fun _ => rfl
theorem lo_X5_init_105 (E : kx_E) : kx_look 105 (cd_X5_init E) = t_mm 108 (fun x y => if x < y then y else x) := funext fun _ => rfl
theorem lo_X5_init_108 (E : kx_E) : kx_look 108 (cd_X5_init E) = t_pI 111 7 126 := funext fun _ => rfl
theorem lo_X5_init_111 (E : kx_E) : kx_look 111 (cd_X5_init E) = t_al 112 0 := funext fun _ => rfl
theorem lo_X5_init_112 (E : kx_E) : kx_look 112 (cd_X5_init E) = t_il 114 4 := funext fun _ => rfl
theorem lo_X5_init_114 (E : kx_E) : kx_look 114 (cd_X5_init E) = t_pI 117 7 127 := funext fun _ => rfl
theorem lo_X5_init_117 (E : kx_E) : kx_look 117 (cd_X5_init E) = t_vret := funext fun _ => rfl
