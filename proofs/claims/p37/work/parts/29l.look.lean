theorem lo_X9_many_0 (E : kx_E) : kx_look 0 (cd_X9_many E) = t_il 1 1 := funext fun _ => rfl
theorem lo_X9_many_1 (E : kx_E) : kx_look 1 (cd_X9_many E) = t_push 2 (.int 0) := funext fun _ => rfl
theorem lo_X9_many_2 (E : kx_E) : kx_look 2 (cd_X9_many E) = t_push 4 (.int 15) := funext fun _ => rfl
theorem lo_X9_many_4 (E : kx_E) : kx_look 4 (cd_X9_many E) = t_fun (f2_X9_isWithin E) 0 0 7 3 := funext fun _ => rfl
theorem lo_X9_many_7 (E : kx_E) : kx_look 7 (cd_X9_many E) = t_if 10 21 (fun x => x ≠ 0) := funext fun _ => rfl
theorem lo_X9_many_10 (E : kx_E) : kx_look 10 (cd_X9_many E) = t_no := funext fun _ => rfl
theorem lo_X9_many_21 (E : kx_E) : kx_look 21 (cd_X9_many E) = t_al 22 0 := funext fun _ => rfl
theorem lo_X9_many_22 (E : kx_E) : kx_look 22 (cd_X9_many E) = t_il 23 1 := funext fun _ => rfl
theorem lo_X9_many_23 (E : kx_E) : kx_look 23 (cd_X9_many E) = t_fun (f2_X9_numberOfHall E) 0 0 26 2 := funext fun _ => rfl
theorem lo_X9_many_26 (E : kx_E) : kx_look 26 (cd_X9_many E) = t_iret := funext fun _ => rfl
theorem lo_X9_lamps_0 (E : kx_E) : kx_look 0 (cd_X9_lamps E) = t_al 1 0 := funext fun _ => rfl
theorem lo_X9_lamps_1 (E : kx_E) : kx_look 1 (cd_X9_lamps E) = t_il 2 1 := funext fun _ => rfl
theorem lo_X9_lamps_2 (E : kx_E) : kx_look 2 (cd_X9_lamps E) = t_fun (f2_X9_growerAt E) 0 0 5 2 := funext fun _ => rfl
theorem lo_X9_lamps_5 (E : kx_E) : kx_look 5 (cd_X9_lamps E) = t_as 6 3 := funext fun _ => rfl
theorem lo_X9_lamps_6 (E : kx_E) : kx_look 6 (cd_X9_lamps E) = t_il 7 2 := funext fun _ => rfl
theorem lo_X9_lamps_7 (E : kx_E) : kx_look 7 (cd_X9_lamps E) = t_push 8 (.int 0) := funext fun _ => rfl
theorem lo_X9_lamps_8 (E : kx_E) : kx_look 8 (cd_X9_lamps E) = t_push 9 (.int 3) := funext fun _ => rfl
theorem lo_X9_lamps_9 (E : kx_E) : kx_look 9 (cd_X9_lamps E) = t_fun (f2_X9_isWithin E) 0 0 12 3 := funext fun _ => rfl
theorem lo_X9_lamps_12 (E : kx_E) : kx_look 12 (cd_X9_lamps E) = t_if 15 25 (fun x => x ≠ 0) := funext fun _ => rfl
theorem lo_X9_lamps_15 (E : kx_E) : kx_look 15 (cd_X9_lamps E) = t_no := funext fun _ => rfl
theorem lo_X9_lamps_25 (E : kx_E) : kx_look 25 (cd_X9_lamps E) = t_al 26 3 := funext fun _ => rfl
theorem lo_X9_lamps_26 (E : kx_E) : kx_look 26 (cd_X9_lamps E) = t_gI 29 6 102 := funext fun _ => rfl
theorem lo_X9_lamps_29 (E : kx_E) : kx_look 29 (cd_X9_lamps E) = t_is 31 4 := funext fun _ => rfl
theorem lo_X9_lamps_31 (E : kx_E) : kx_look 31 (cd_X9_lamps E) = t_al 32 3 := funext fun _ => rfl
theorem lo_X9_lamps_32 (E : kx_E) : kx_look 32 (cd_X9_lamps E) = t_il 33 2 := funext fun _ => rfl
theorem lo_X9_lamps_33 (E : kx_E) : kx_look 33 (cd_X9_lamps E) = t_pI 36 6 102 := funext fun _ => rfl
theorem lo_X9_lamps_36 (E : kx_E) : kx_look 36 (cd_X9_lamps E) = t_il 38 4 := funext fun _ => rfl
theorem lo_X9_lamps_38 (E : kx_E) : kx_look 38 (cd_X9_lamps E) = t_iret := funext fun _ => rfl
theorem lo_X9_even_0 (E : kx_E) : kx_look 0 (cd_X9_even E) = t_al 1 0 := funext fun _ => rfl
theorem lo_X9_even_1 (E : kx_E) : kx_look 1 (cd_X9_even E) = t_il 2 1 := funext fun _ => rfl
theorem lo_X9_even_2 (E : kx_E) : kx_look 2 (cd_X9_even E) = t_fun (f2_X9_buyerAt E) 0 0 5 2 := funext fun _ => rfl
theorem lo_X9_even_5 (E : kx_E) : kx_look 5 (cd_X9_even E) = t_as 6 3 := funext fun _ => rfl
theorem lo_X9_even_6 (E : kx_E) : kx_look 6 (cd_X9_even E) = t_il 7 2 := funext fun _ => rfl
theorem lo_X9_even_7 (E : kx_E) : kx_look 7 (cd_X9_even E) = t_push 8 (.int 0) := funext fun _ => rfl
theorem lo_X9_even_8 (E : kx_E) : kx_look 8 (cd_X9_even E) = t_push 10 (.int 9) := funext fun _ => rfl
theorem lo_X9_even_10 (E : kx_E) : kx_look 10 (cd_X9_even E) = t_fun (f2_X9_isWithin E) 0 0 13 3 := funext fun _ => rfl
theorem lo_X9_even_13 (E : kx_E) : kx_look 13 (cd_X9_even E) = t_if 16 26 (fun x => x ≠ 0) := funext fun _ => rfl
theorem lo_X9_even_16 (E : kx_E) : kx_look 16 (cd_X9_even E) = t_no := funext fun _ => rfl
theorem lo_X9_even_26 (E : kx_E) : kx_look 26 (cd_X9_even E) = t_al 27 3 := funext fun _ => rfl
theorem lo_X9_even_27 (E : kx_E) : kx_look 27 (cd_X9_even E) = t_gI 30 2 24 := funext fun _ => rfl
theorem lo_X9_even_30 (E : kx_E) : kx_look 30 (cd_X9_even E) = t_is 32 4 := funext fun _ => rfl
theorem lo_X9_even_32 (E : kx_E) : kx_look 32 (cd_X9_even E) = t_al 33 3 := funext fun _ => rfl
theorem lo_X9_even_33 (E : kx_E) : kx_look 33 (cd_X9_even E) = t_il 34 2 := funext fun _ => rfl
theorem lo_X9_even_34 (E : kx_E) : kx_look 34 (cd_X9_even E) = t_pI 37 2 24 := funext fun _ => rfl
theorem lo_X9_even_37 (E : kx_E) : kx_look 37 (cd_X9_even E) = t_il 39 4 := funext fun _ => rfl
theorem lo_X9_even_39 (E : kx_E) : kx_look 39 (cd_X9_even E) = t_iret := funext fun _ => rfl
theorem lo_X9_leave_0 (E : kx_E) : kx_look 0 (cd_X9_leave E) = t_al 1 0 := funext fun _ => rfl
theorem lo_X9_leave_1 (E : kx_E) : kx_look 1 (cd_X9_leave E) = t_il 2 1 := funext fun _ => rfl
theorem lo_X9_leave_2 (E : kx_E) : kx_look 2 (cd_X9_leave E) = t_fun (f2_X9_buyerAt E) 0 0 5 2 := funext fun _ => rfl
theorem lo_X9_leave_5 (E : kx_E) : kx_look 5 (cd_X9_leave E) = t_as 6 3 := funext fun _ => rfl
theorem lo_X9_leave_6 (E : kx_E) : kx_look 6 (cd_X9_leave E) = t_il 7 2 := funext fun _ => rfl
theorem lo_X9_leave_7 (E : kx_E) : kx_look 7 (cd_X9_leave E) = t_push 8 (.int (-1)) := funext fun _ => rfl
theorem lo_X9_leave_8 (E : kx_E) : kx_look 8 (cd_X9_leave E) = t_push 11 (.int 9999) := funext fun _ => rfl
theorem lo_X9_leave_11 (E : kx_E) : kx_look 11 (cd_X9_leave E) = t_fun (f2_X9_isWithin E) 0 0 14 3 := funext fun _ => rfl
theorem lo_X9_leave_14 (E : kx_E) : kx_look 14 (cd_X9_leave E) = t_if 17 27 (fun x => x ≠ 0) := funext fun _ => rfl
theorem lo_X9_leave_17 (E : kx_E) : kx_look 17 (cd_X9_leave E) = t_no := funext fun _ => rfl
theorem lo_X9_leave_27 (E : kx_E) : kx_look 27 (cd_X9_leave E) = t_al 28 3 := funext fun _ => rfl
theorem lo_X9_leave_28 (E : kx_E) : kx_look 28 (cd_X9_leave E) = t_gI 31 2 25 := funext fun _ => rfl
theorem lo_X9_leave_31 (E : kx_E) : kx_look 31 (cd_X9_leave E) = t_is 33 4 := funext fun _ => rfl
theorem lo_X9_leave_33 (E : kx_E) : kx_look 33 (cd_X9_leave E) = t_al 34 3 := funext fun _ => rfl
theorem lo_X9_leave_34 (E : kx_E) : kx_look 34 (cd_X9_leave E) = t_il 35 2 := funext fun _ => rfl
theorem lo_X9_leave_35 (E : kx_E) : kx_look 35 (cd_X9_leave E) = t_pI 38 2 25 := funext fun _ => rfl
theorem lo_X9_leave_38 (E : kx_E) : kx_look 38 (cd_X9_leave E) = t_il 40 4 := funext fun _ => rfl
theorem lo_X9_leave_40 (E : kx_E) : kx_look 40 (cd_X9_leave E) = t_iret := funext fun _ => rfl
theorem lo_X9_clear_0 (E : kx_E) : kx_look 0 (cd_X9_clear E) = t_al 1 0 := funext fun _ => rfl
theorem lo_X9_clear_1 (E : kx_E) : kx_look 1 (cd_X9_clear E) = t_il 2 1 := funext fun _ => rfl
theorem lo_X9_clear_2 (E : kx_E) : kx_look 2 (cd_X9_clear E) = t_fun (f2_X9_lotAt E) 0 0 5 2 := funext fun _ => rfl
theorem lo_X9_clear_5 (E : kx_E) : kx_look 5 (cd_X9_clear E) = t_as 6 3 := funext fun _ => rfl
theorem lo_X9_clear_6 (E : kx_E) : kx_look 6 (cd_X9_clear E) = t_al 7 3 := funext fun _ => rfl
theorem lo_X9_clear_7 (E : kx_E) : kx_look 7 (cd_X9_clear E) = t_gI 10 7 129 := funext fun _ => rfl
theorem lo_X9_clear_10 (E : kx_E) : kx_look 10 (cd_X9_clear E) = t_if 13 24 (fun x => x = 0) := funext fun _ => rfl
theorem lo_X9_clear_13 (E : kx_E) : kx_look 13 (cd_X9_clear E) = t_no := funext fun _ => rfl
theorem lo_X9_clear_24 (E : kx_E) : kx_look 24 (cd_X9_clear E) = t_al 25 3 := funext fun _ => rfl
theorem lo_X9_clear_25 (E : kx_E) : kx_look 25 (cd_X9_clear E) = t_gI 28 7 125 := funext fun _ => rfl
theorem lo_X9_clear_28 (E : kx_E) : kx_look 28 (cd_X9_clear E) = t_is 30 4 := funext fun _ => rfl
theorem lo_X9_clear_30 (E : kx_E) : kx_look 30 (cd_X9_clear E) = t_al 31 0 := funext fun _ => rfl
theorem lo_X9_clear_31 (E : kx_E) : kx_look 31 (cd_X9_clear E) = t_dup 32 := funext fun _ => rfl
theorem lo_X9_clear_32 (E : kx_E) : kx_look 32 (cd_X9_clear E) = t_gI 35 11 215 := funext fun _ => rfl
theorem lo_X9_clear_35 (E : kx_E) : kx_look 35 (cd_X9_clear E) = t_il 37 4 := funext fun _ => rfl
theorem lo_X9_clear_37 (E : kx_E) : kx_look 37 (cd_X9_clear E) = t_bin 38 (fun x y => x + y) := funext fun _ => rfl
theorem lo_X9_clear_38 (E : kx_E) : kx_look 38 (cd_X9_clear E) = t_pI 41 11 215 := funext fun _ => rfl
theorem lo_X9_clear_41 (E : kx_E) : kx_look 41 (cd_X9_clear E) = t_al 42 0 := funext fun _ => rfl
theorem lo_X9_clear_42 (E : kx_E) : kx_look 42 (cd_X9_clear E) = t_dup 43 := funext fun _ => rfl
theorem lo_X9_clear_43 (E : kx_E) : kx_look 43 (cd_X9_clear E) = t_gI 46 11 212 := funext fun _ => rfl
theorem lo_X9_clear_46 (E : kx_E) : kx_look 46 (cd_X9_clear E) = t_al 47 3 := funext fun _ => rfl
theorem lo_X9_clear_47 (E : kx_E) : kx_look 47 (cd_X9_clear E) = t_gI 50 7 127 := funext fun _ => rfl
theorem lo_X9_clear_50 (E : kx_E) : kx_look 50 (cd_X9_clear E) = t_bin 51 (fun x y => x + y) := funext fun _ => rfl
theorem lo_X9_clear_51 (E : kx_E) : kx_look 51 (cd_X9_clear E) = t_pI 54 11 212 := funext fun _ => rfl
theorem lo_X9_clear_54 (E : kx_E) : kx_look 54 (cd_X9_clear E) = t_al 55 3 := funext fun _ => rfl
theorem lo_X9_clear_55 (E : kx_E) : kx_look 55 (cd_X9_clear E) = t_push 56 (.int 0) := funext fun _ => rfl
theorem lo_X9_clear_56 (E : kx_E) : kx_look 56 (cd_X9_clear E) = t_pI 59 7 125 := funext fun _ => rfl
theorem lo_X9_clear_59 (E : kx_E) : kx_look 59 (cd_X9_clear E) = t_al 60 3 := funext fun _ => rfl
theorem lo_X9_clear_60 (E : kx_E) : kx_look 60 (cd_X9_clear E) = t_push 61 (.int 0) := funext fun _ => rfl
theorem lo_X9_clear_61 (E : kx_E) : kx_look 61 (cd_X9_clear E) = t_pI 64 7 127 := funext fun _ => rfl
theorem lo_X9_clear_64 (E : kx_E) : kx_look 64 (cd_X9_clear E) = t_al 65 3 := funext fun _ => rfl
theorem lo_X9_clear_65 (E : kx_E) : kx_look 65 (cd_X9_clear E) = t_push 66 (.int 3) := funext fun _ => rfl
theorem lo_X9_clear_66 (E : kx_E) : kx_look 66 (cd_X9_clear E) = t_pI 69 7 129 := funext fun _ => rfl
theorem lo_X9_clear_69 (E : kx_E) : kx_look 69 (cd_X9_clear E) = t_il 70 2 := funext fun _ => rfl
theorem lo_X9_clear_70 (E : kx_E) : kx_look 70 (cd_X9_clear E) = t_if 73 94 (fun x => x = 0) := funext fun _ => rfl
theorem lo_X9_clear_73 (E : kx_E) : kx_look 73 (cd_X9_clear E) = t_al 74 3 := funext fun _ => rfl
theorem lo_X9_clear_74 (E : kx_E) : kx_look 74 (cd_X9_clear E) = t_gR 77 7 121 := funext fun _ => rfl
theorem lo_X9_clear_77 (E : kx_E) : kx_look 77 (cd_X9_clear E) = t_push 79 (.int 100) := funext fun _ => rfl
theorem lo_X9_clear_79 (E : kx_E) : kx_look 79 (cd_X9_clear E) = t_al 80 3 := funext fun _ => rfl
theorem lo_X9_clear_80 (E : kx_E) : kx_look 80 (cd_X9_clear E) = t_gR 83 7 121 := funext fun _ => rfl
theorem lo_X9_clear_83 (E : kx_E) : kx_look 83 (cd_X9_clear E) = t_gI 86 6 103 := funext fun _ => rfl
theorem lo_X9_clear_86 (E : kx_E) : kx_look 86 (cd_X9_clear E) = t_push 87 (.int 1) := funext fun _ => rfl
theorem lo_X9_clear_87 (E : kx_E) : kx_look 87 (cd_X9_clear E) = t_bin 88 (fun x y => x + y) := funext fun _ => rfl
theorem lo_X9_clear_88 (E : kx_E) : kx_look 88 (cd_X9_clear E) = t_mm 91 (fun x y => if y < x then y else x) := funext fun _ => rfl
theorem lo_X9_clear_91 (E : kx_E) : kx_look 91 (cd_X9_clear E) = t_pI 94 6 103 := funext fun _ => rfl
theorem lo_X9_clear_94 (E : kx_E) : kx_look 94 (cd_X9_clear E) = t_il 96 4 := funext fun _ => rfl
theorem lo_X9_clear_96 (E : kx_E) : kx_look 96 (cd_X9_clear E) = t_iret := funext fun _ => rfl
theorem lo_X9_back_0 (E : kx_E) : kx_look 0 (cd_X9_back E) = t_al 1 0 := funext fun _ => rfl
theorem lo_X9_back_1 (E : kx_E) : kx_look 1 (cd_X9_back E) = t_il 2 1 := funext fun _ => rfl
theorem lo_X9_back_2 (E : kx_E) : kx_look 2 (cd_X9_back E) = t_fun (f2_X9_buyerAt E) 0 0 5 2 := funext fun _ => rfl
theorem lo_X9_back_5 (E : kx_E) : kx_look 5 (cd_X9_back E) = t_as 6 3 := funext fun _ => rfl
theorem lo_X9_back_6 (E : kx_E) : kx_look 6 (cd_X9_back E) = t_il 7 2 := funext fun _ => rfl
theorem lo_X9_back_7 (E : kx_E) : kx_look 7 (cd_X9_back E) = t_push 8 (.int 1) := funext fun _ => rfl
theorem lo_X9_back_8 (E : kx_E) : kx_look 8 (cd_X9_back E) = t_ic 11 22 (fun x y => y ≤ x) := funext fun _ => rfl
theorem lo_X9_back_11 (E : kx_E) : kx_look 11 (cd_X9_back E) = t_no := funext fun _ => rfl
theorem lo_X9_back_22 (E : kx_E) : kx_look 22 (cd_X9_back E) = t_il 23 2 := funext fun _ => rfl
theorem lo_X9_back_23 (E : kx_E) : kx_look 23 (cd_X9_back E) = t_al 24 3 := funext fun _ => rfl
theorem lo_X9_back_24 (E : kx_E) : kx_look 24 (cd_X9_back E) = t_gI 27 2 26 := funext fun _ => rfl
theorem lo_X9_back_27 (E : kx_E) : kx_look 27 (cd_X9_back E) = t_ic 30 41 (fun x y => x ≤ y) := funext fun _ => rfl
theorem lo_X9_back_30 (E : kx_E) : kx_look 30 (cd_X9_back E) = t_no := funext fun _ => rfl
theorem lo_X9_back_41 (E : kx_E) : kx_look 41 (cd_X9_back E) = t_al 42 3 := funext fun _ => rfl
theorem lo_X9_back_42 (E : kx_E) : kx_look 42 (cd_X9_back E) = t_dup 43 := funext fun _ => rfl
theorem lo_X9_back_43 (E : kx_E) : kx_look 43 (cd_X9_back E) = t_gI 46 2 26 := funext fun _ => rfl
theorem lo_X9_back_46 (E : kx_E) : kx_look 46 (cd_X9_back E) = t_il 47 2 := funext fun _ => rfl
theorem lo_X9_back_47 (E : kx_E) : kx_look 47 (cd_X9_back E) = t_bin 48 (fun x y => x - y) := funext fun _ => rfl
theorem lo_X9_back_48 (E : kx_E) : kx_look 48 (cd_X9_back E) = t_pI 51 2 26 := funext fun _ => rfl
theorem lo_X9_back_51 (E : kx_E) : kx_look 51 (cd_X9_back E) = t_al 52 0 := funext fun _ => rfl
theorem lo_X9_back_52 (E : kx_E) : kx_look 52 (cd_X9_back E) = t_dup 53 := funext fun _ => rfl
theorem lo_X9_back_53 (E : kx_E) : kx_look 53 (cd_X9_back E) = t_gI 56 11 212 := funext fun _ => rfl
theorem lo_X9_back_56 (E : kx_E) : kx_look 56 (cd_X9_back E) = t_il 57 2 := funext fun _ => rfl
theorem lo_X9_back_57 (E : kx_E) : kx_look 57 (cd_X9_back E) = t_bin 58 (fun x y => x + y) := funext fun _ => rfl
theorem lo_X9_back_58 (E : kx_E) : kx_look 58 (cd_X9_back E) = t_pI 61 11 212 := funext fun _ => rfl
theorem lo_X9_back_61 (E : kx_E) : kx_look 61 (cd_X9_back E) = t_al 62 3 := funext fun _ => rfl
theorem lo_X9_back_62 (E : kx_E) : kx_look 62 (cd_X9_back E) = t_dup 63 := funext fun _ => rfl
theorem lo_X9_back_63 (E : kx_E) : kx_look 63 (cd_X9_back E) = t_gI 66 2 23 := funext fun _ => rfl
theorem lo_X9_back_66 (E : kx_E) : kx_look 66 (cd_X9_back E) = t_il 67 2 := funext fun _ => rfl
theorem lo_X9_back_67 (E : kx_E) : kx_look 67 (cd_X9_back E) = t_push 68 (.int 2) := funext fun _ => rfl
theorem lo_X9_back_68 (E : kx_E) : kx_look 68 (cd_X9_back E) = t_bin 69 (fun x y => x * y) := funext fun _ => rfl
theorem lo_X9_back_69 (E : kx_E) : kx_look 69 (cd_X9_back E) = t_bin 70 (fun x y => x + y) := funext fun _ => rfl
theorem lo_X9_back_70 (E : kx_E) : kx_look 70 (cd_X9_back E) = t_pI 73 2 23 := funext fun _ => rfl
theorem lo_X9_back_73 (E : kx_E) : kx_look 73 (cd_X9_back E) = t_al 74 0 := funext fun _ => rfl
theorem lo_X9_back_74 (E : kx_E) : kx_look 74 (cd_X9_back E) = t_dup 75 := funext fun _ => rfl
theorem lo_X9_back_75 (E : kx_E) : kx_look 75 (cd_X9_back E) = t_gI 78 11 214 := funext fun _ => rfl
theorem lo_X9_back_78 (E : kx_E) : kx_look 78 (cd_X9_back E) = t_il 79 2 := funext fun _ => rfl
theorem lo_X9_back_79 (E : kx_E) : kx_look 79 (cd_X9_back E) = t_push 80 (.int 2) := funext fun _ => rfl
theorem lo_X9_back_80 (E : kx_E) : kx_look 80 (cd_X9_back E) = t_bin 81 (fun x y => x * y) := funext fun _ => rfl
theorem lo_X9_back_81 (E : kx_E) : kx_look 81 (cd_X9_back E) = t_bin 82 (fun x y => x - y) := funext fun _ => rfl
theorem lo_X9_back_82 (E : kx_E) : kx_look 82 (cd_X9_back E) = t_pI 85 11 214 := funext fun _ => rfl
theorem lo_X9_back_85 (E : kx_E) : kx_look 85 (cd_X9_back E) = t_al 86 0 := funext fun _ => rfl
theorem lo_X9_back_86 (E : kx_E) : kx_look 86 (cd_X9_back E) = t_gI 89 11 212 := funext fun _ => rfl
theorem lo_X9_back_89 (E : kx_E) : kx_look 89 (cd_X9_back E) = t_iret := funext fun _ => rfl
theorem lo_X9_inspect_0 (E : kx_E) : kx_look 0 (cd_X9_inspect E) = t_al 1 0 := funext fun _ => rfl
theorem lo_X9_inspect_1 (E : kx_E) : kx_look 1 (cd_X9_inspect E) = t_il 2 1 := funext fun _ => rfl
theorem lo_X9_inspect_2 (E : kx_E) : kx_look 2 (cd_X9_inspect E) = t_fun (f2_X9_lotAt E) 0 0 5 2 := funext fun _ => rfl
theorem lo_X9_inspect_5 (E : kx_E) : kx_look 5 (cd_X9_inspect E) = t_as 6 2 := funext fun _ => rfl
theorem lo_X9_inspect_6 (E : kx_E) : kx_look 6 (cd_X9_inspect E) = t_al 7 2 := funext fun _ => rfl
theorem lo_X9_inspect_7 (E : kx_E) : kx_look 7 (cd_X9_inspect E) = t_gI 10 7 129 := funext fun _ => rfl
theorem lo_X9_inspect_10 (E : kx_E) : kx_look 10 (cd_X9_inspect E) = t_push 11 (.int 1) := funext fun _ => rfl
theorem lo_X9_inspect_11 (E : kx_E) : kx_look 11 (cd_X9_inspect E) = t_ic 14 24 (fun x y => x = y) := funext fun _ => rfl
theorem lo_X9_inspect_14 (E : kx_E) : kx_look 14 (cd_X9_inspect E) = t_no := funext fun _ => rfl
theorem lo_X9_inspect_24 (E : kx_E) : kx_look 24 (cd_X9_inspect E) = t_al 25 2 := funext fun _ => rfl
theorem lo_X9_inspect_25 (E : kx_E) : kx_look 25 (cd_X9_inspect E) = t_gR 28 7 121 := funext fun _ => rfl
theorem lo_X9_inspect_28 (E : kx_E) : kx_look 28 (cd_X9_inspect E) = t_as 29 3 := funext fun _ => rfl
theorem lo_X9_inspect_29 (E : kx_E) : kx_look 29 (cd_X9_inspect E) = t_al 30 2 := funext fun _ => rfl
theorem lo_X9_inspect_30 (E : kx_E) : kx_look 30 (cd_X9_inspect E) = t_gI 33 7 130 := funext fun _ => rfl
theorem lo_X9_inspect_33 (E : kx_E) : kx_look 33 (cd_X9_inspect E) = t_al 34 2 := funext fun _ => rfl
theorem lo_X9_inspect_34 (E : kx_E) : kx_look 34 (cd_X9_inspect E) = t_gI 37 7 126 := funext fun _ => rfl
theorem lo_X9_inspect_37 (E : kx_E) : kx_look 37 (cd_X9_inspect E) = t_ic 40 66 (fun x y => x ≤ y) := funext fun _ => rfl
theorem lo_X9_inspect_40 (E : kx_E) : kx_look 40 (cd_X9_inspect E) = t_al 41 3 := funext fun _ => rfl
theorem lo_X9_inspect_41 (E : kx_E) : kx_look 41 (cd_X9_inspect E) = t_push 42 (.int 0) := funext fun _ => rfl
theorem lo_X9_inspect_42 (E : kx_E) : kx_look 42 (cd_X9_inspect E) = t_al 43 3 := funext fun _ => rfl
theorem lo_X9_inspect_43 (E : kx_E) : kx_look 43 (cd_X9_inspect E) = t_gI 46 6 103 := funext fun _ => rfl
theorem lo_X9_inspect_46 (E : kx_E) : kx_look 46 (cd_X9_inspect E) = t_push 48 (.int 10) := funext fun _ => rfl
theorem lo_X9_inspect_48 (E : kx_E) : kx_look 48 (cd_X9_inspect E) = t_bin 49 (fun x y => x - y) := funext fun _ => rfl
theorem lo_X9_inspect_49 (E : kx_E) : kx_look 49 (cd_X9_inspect E) = t_mm 52 (fun x y => if x < y then y else x) := funext fun _ => rfl
theorem lo_X9_inspect_52 (E : kx_E) : kx_look 52 (cd_X9_inspect E) = t_pI 55 6 103 := funext fun _ => rfl
theorem lo_X9_inspect_55 (E : kx_E) : kx_look 55 (cd_X9_inspect E) = t_al 56 2 := funext fun _ => rfl
theorem lo_X9_inspect_56 (E : kx_E) : kx_look 56 (cd_X9_inspect E) = t_al 57 2 := funext fun _ => rfl
theorem lo_X9_inspect_57 (E : kx_E) : kx_look 57 (cd_X9_inspect E) = t_gI 60 7 126 := funext fun _ => rfl
theorem lo_X9_inspect_60 (E : kx_E) : kx_look 60 (cd_X9_inspect E) = t_pI 63 7 130 := funext fun _ => rfl
theorem lo_X9_inspect_63 (E : kx_E) : kx_look 63 (cd_X9_inspect E) = t_go 81 := funext fun _ => rfl
theorem lo_X9_inspect_66 (E : kx_E) : kx_look 66 (cd_X9_inspect E) = t_al 67 3 := funext fun _ => rfl
theorem lo_X9_inspect_67 (E : kx_E) : kx_look 67 (cd_X9_inspect E) = t_push 69 (.int 100) := funext fun _ => rfl
theorem lo_X9_inspect_69 (E : kx_E) : kx_look 69 (cd_X9_inspect E) = t_al 70 3 := funext fun _ => rfl
theorem lo_X9_inspect_70 (E : kx_E) : kx_look 70 (cd_X9_inspect E) = t_gI 73 6 103 := funext fun _ => rfl
theorem lo_X9_inspect_73 (E : kx_E) : kx_look 73 (cd_X9_inspect E) = t_push 74 (.int 2) := funext fun _ => rfl
theorem lo_X9_inspect_74 (E : kx_E) : kx_look 74 (cd_X9_inspect E) = t_bin 75 (fun x y => x + y) := funext fun _ => rfl
theorem lo_X9_inspect_75 (E : kx_E) : kx_look 75 (cd_X9_inspect E) = t_mm 78 (fun x y => if y < x then y else x) := funext fun _ => rfl
theorem lo_X9_inspect_78 (E : kx_E) : kx_look 78 (cd_X9_inspect E) = t_pI 81 6 103 := funext fun _ => rfl
theorem lo_X9_inspect_81 (E : kx_E) : kx_look 81 (cd_X9_inspect E) = t_al 82 3 := funext fun _ => rfl
theorem lo_X9_inspect_82 (E : kx_E) : kx_look 82 (cd_X9_inspect E) = t_gI 85 6 103 := funext fun _ => rfl
theorem lo_X9_inspect_85 (E : kx_E) : kx_look 85 (cd_X9_inspect E) = t_iret := funext fun _ => rfl
