set_option maxRecDepth 16000
theorem lo_L_below_0 (E : kx_E) : kx_look 0 (cd_L_below E) = t_il 1 0 := funext fun _ => rfl
theorem lo_L_below_1 (E : kx_E) : kx_look 1 (cd_L_below E) = t_push 3 (.int 2147483647) := funext fun _ => rfl
theorem lo_L_below_3 (E : kx_E) : kx_look 3 (cd_L_below E) = t_bin 4 (fun x y => x &&& y) := funext fun _ => rfl
theorem lo_L_below_4 (E : kx_E) : kx_look 4 (cd_L_below E) = t_il 5 1 := funext fun _ => rfl
theorem lo_L_below_5 (E : kx_E) : kx_look 5 (cd_L_below E) = t_dv 6 (fun x y => x - x / y * y) := funext fun _ => rfl
theorem lo_L_below_6 (E : kx_E) : kx_look 6 (cd_L_below E) = t_iret := funext fun _ => rfl
theorem lo_L_cell_0 (E : kx_E) : kx_look 0 (cd_L_cell E) = t_il 1 1 := funext fun _ => rfl
theorem lo_L_cell_1 (E : kx_E) : kx_look 1 (cd_L_cell E) = t_al 2 0 := funext fun _ => rfl
theorem lo_L_cell_2 (E : kx_E) : kx_look 2 (cd_L_cell E) = t_sln E 3 := funext fun _ => rfl
theorem lo_L_cell_3 (E : kx_E) : kx_look 3 (cd_L_cell E) = t_ic 6 12 (fun x y => y ≤ x) := funext fun _ => rfl
theorem lo_L_cell_6 (E : kx_E) : kx_look 6 (cd_L_cell E) = t_al 7 0 := funext fun _ => rfl
theorem lo_L_cell_7 (E : kx_E) : kx_look 7 (cd_L_cell E) = t_il 8 1 := funext fun _ => rfl
theorem lo_L_cell_8 (E : kx_E) : kx_look 8 (cd_L_cell E) = t_sld E 9 := funext fun _ => rfl
theorem lo_L_cell_9 (E : kx_E) : kx_look 9 (cd_L_cell E) = t_go 18 := funext fun _ => rfl
theorem lo_L_cell_12 (E : kx_E) : kx_look 12 (cd_L_cell E) = t_push 14 (.int 790386105) := funext fun _ => rfl
theorem lo_L_cell_14 (E : kx_E) : kx_look 14 (cd_L_cell E) = t_il 15 1 := funext fun _ => rfl
theorem lo_L_cell_15 (E : kx_E) : kx_look 15 (cd_L_cell E) = t_push 16 (.int 3) := funext fun _ => rfl
theorem lo_L_cell_16 (E : kx_E) : kx_look 16 (cd_L_cell E) = t_bin 17 (fun x y => x + y) := funext fun _ => rfl
theorem lo_L_cell_17 (E : kx_E) : kx_look 17 (cd_L_cell E) = t_bin 18 (fun x y => x * y) := funext fun _ => rfl
theorem lo_L_cell_18 (E : kx_E) : kx_look 18 (cd_L_cell E) = t_iret := funext fun _ => rfl
theorem lo_L_isInspected_0 (E : kx_E) : kx_look 0 (cd_L_isInspected E) = t_al 1 0 := funext fun _ => rfl
theorem lo_L_isInspected_1 (E : kx_E) : kx_look 1 (cd_L_isInspected E) = t_il 2 1 := funext fun _ => rfl
theorem lo_L_isInspected_2 (E : kx_E) : kx_look 2 (cd_L_isInspected E) = t_push 3 (.int 0) := funext fun _ => rfl
theorem lo_L_isInspected_3 (E : kx_E) : kx_look 3 (cd_L_isInspected E) = t_fun (f2_X9_ofLot E) 0 0 6 3 := funext fun _ => rfl
theorem lo_L_isInspected_6 (E : kx_E) : kx_look 6 (cd_L_isInspected E) = t_is 7 2 := funext fun _ => rfl
theorem lo_L_isInspected_7 (E : kx_E) : kx_look 7 (cd_L_isInspected E) = t_al 8 0 := funext fun _ => rfl
theorem lo_L_isInspected_8 (E : kx_E) : kx_look 8 (cd_L_isInspected E) = t_il 9 2 := funext fun _ => rfl
theorem lo_L_isInspected_9 (E : kx_E) : kx_look 9 (cd_L_isInspected E) = t_push 10 (.int 2) := funext fun _ => rfl
theorem lo_L_isInspected_10 (E : kx_E) : kx_look 10 (cd_L_isInspected E) = t_fun (f2_X9_ofGrower E) 0 0 13 3 := funext fun _ => rfl
theorem lo_L_isInspected_13 (E : kx_E) : kx_look 13 (cd_L_isInspected E) = t_is 14 3 := funext fun _ => rfl
theorem lo_L_isInspected_14 (E : kx_E) : kx_look 14 (cd_L_isInspected E) = t_al 15 0 := funext fun _ => rfl
theorem lo_L_isInspected_15 (E : kx_E) : kx_look 15 (cd_L_isInspected E) = t_il 16 1 := funext fun _ => rfl
theorem lo_L_isInspected_16 (E : kx_E) : kx_look 16 (cd_L_isInspected E) = t_push 18 (.int 8) := funext fun _ => rfl
theorem lo_L_isInspected_18 (E : kx_E) : kx_look 18 (cd_L_isInspected E) = t_fun (f2_X9_ofLot E) 0 0 21 3 := funext fun _ => rfl
theorem lo_L_isInspected_21 (E : kx_E) : kx_look 21 (cd_L_isInspected E) = t_al 22 0 := funext fun _ => rfl
theorem lo_L_isInspected_22 (E : kx_E) : kx_look 22 (cd_L_isInspected E) = t_il 23 1 := funext fun _ => rfl
theorem lo_L_isInspected_23 (E : kx_E) : kx_look 23 (cd_L_isInspected E) = t_push 24 (.int 4) := funext fun _ => rfl
theorem lo_L_isInspected_24 (E : kx_E) : kx_look 24 (cd_L_isInspected E) = t_fun (f2_X9_ofLot E) 0 0 27 3 := funext fun _ => rfl
theorem lo_L_isInspected_27 (E : kx_E) : kx_look 27 (cd_L_isInspected E) = t_ic 30 34 (fun x y => x ≤ y) := funext fun _ => rfl
theorem lo_L_isInspected_30 (E : kx_E) : kx_look 30 (cd_L_isInspected E) = t_push 31 (.int 1) := funext fun _ => rfl
theorem lo_L_isInspected_31 (E : kx_E) : kx_look 31 (cd_L_isInspected E) = t_go 35 := funext fun _ => rfl
theorem lo_L_isInspected_34 (E : kx_E) : kx_look 34 (cd_L_isInspected E) = t_push 35 (.int 0) := funext fun _ => rfl
theorem lo_L_isInspected_35 (E : kx_E) : kx_look 35 (cd_L_isInspected E) = t_is 37 4 := funext fun _ => rfl
theorem lo_L_isInspected_37 (E : kx_E) : kx_look 37 (cd_L_isInspected E) = t_il 39 4 := funext fun _ => rfl
theorem lo_L_isInspected_39 (E : kx_E) : kx_look 39 (cd_L_isInspected E) = t_if 42 53 (fun x => x = 0) := funext fun _ => rfl
theorem lo_L_isInspected_42 (E : kx_E) : kx_look 42 (cd_L_isInspected E) = t_push 43 (.int 0) := funext fun _ => rfl
theorem lo_L_isInspected_43 (E : kx_E) : kx_look 43 (cd_L_isInspected E) = t_il 44 3 := funext fun _ => rfl
theorem lo_L_isInspected_44 (E : kx_E) : kx_look 44 (cd_L_isInspected E) = t_push 46 (.int 10) := funext fun _ => rfl
theorem lo_L_isInspected_46 (E : kx_E) : kx_look 46 (cd_L_isInspected E) = t_bin 47 (fun x y => x - y) := funext fun _ => rfl
theorem lo_L_isInspected_47 (E : kx_E) : kx_look 47 (cd_L_isInspected E) = t_mm 50 (fun x y => if x < y then y else x) := funext fun _ => rfl
theorem lo_L_isInspected_50 (E : kx_E) : kx_look 50 (cd_L_isInspected E) = t_go 61 := funext fun _ => rfl
theorem lo_L_isInspected_53 (E : kx_E) : kx_look 53 (cd_L_isInspected E) = t_push 55 (.int 100) := funext fun _ => rfl
theorem lo_L_isInspected_55 (E : kx_E) : kx_look 55 (cd_L_isInspected E) = t_il 56 3 := funext fun _ => rfl
theorem lo_L_isInspected_56 (E : kx_E) : kx_look 56 (cd_L_isInspected E) = t_push 57 (.int 2) := funext fun _ => rfl
theorem lo_L_isInspected_57 (E : kx_E) : kx_look 57 (cd_L_isInspected E) = t_bin 58 (fun x y => x + y) := funext fun _ => rfl
theorem lo_L_isInspected_58 (E : kx_E) : kx_look 58 (cd_L_isInspected E) = t_mm 61 (fun x y => if y < x then y else x) := funext fun _ => rfl
theorem lo_L_isInspected_61 (E : kx_E) : kx_look 61 (cd_L_isInspected E) = t_is 63 5 := funext fun _ => rfl
theorem lo_L_isInspected_63 (E : kx_E) : kx_look 63 (cd_L_isInspected E) = t_al 64 0 := funext fun _ => rfl
theorem lo_L_isInspected_64 (E : kx_E) : kx_look 64 (cd_L_isInspected E) = t_il 65 1 := funext fun _ => rfl
theorem lo_L_isInspected_65 (E : kx_E) : kx_look 65 (cd_L_isInspected E) = t_fun (f2_X9_inspect E) 0 0 68 2 := funext fun _ => rfl
theorem lo_L_isInspected_68 (E : kx_E) : kx_look 68 (cd_L_isInspected E) = t_il 70 5 := funext fun _ => rfl
theorem lo_L_isInspected_70 (E : kx_E) : kx_look 70 (cd_L_isInspected E) = t_ic 73 104 (fun x y => x ≠ y) := funext fun _ => rfl
theorem lo_L_isInspected_73 (E : kx_E) : kx_look 73 (cd_L_isInspected E) = t_al 74 0 := funext fun _ => rfl
theorem lo_L_isInspected_74 (E : kx_E) : kx_look 74 (cd_L_isInspected E) = t_il 75 2 := funext fun _ => rfl
theorem lo_L_isInspected_75 (E : kx_E) : kx_look 75 (cd_L_isInspected E) = t_push 76 (.int 2) := funext fun _ => rfl
theorem lo_L_isInspected_76 (E : kx_E) : kx_look 76 (cd_L_isInspected E) = t_fun (f2_X9_ofGrower E) 0 0 79 3 := funext fun _ => rfl
theorem lo_L_isInspected_79 (E : kx_E) : kx_look 79 (cd_L_isInspected E) = t_il 81 5 := funext fun _ => rfl
theorem lo_L_isInspected_81 (E : kx_E) : kx_look 81 (cd_L_isInspected E) = t_ic 84 104 (fun x y => x ≠ y) := funext fun _ => rfl
theorem lo_L_isInspected_84 (E : kx_E) : kx_look 84 (cd_L_isInspected E) = t_al 85 0 := funext fun _ => rfl
theorem lo_L_isInspected_85 (E : kx_E) : kx_look 85 (cd_L_isInspected E) = t_il 86 1 := funext fun _ => rfl
theorem lo_L_isInspected_86 (E : kx_E) : kx_look 86 (cd_L_isInspected E) = t_push 88 (.int 8) := funext fun _ => rfl
theorem lo_L_isInspected_88 (E : kx_E) : kx_look 88 (cd_L_isInspected E) = t_fun (f2_X9_ofLot E) 0 0 91 3 := funext fun _ => rfl
theorem lo_L_isInspected_91 (E : kx_E) : kx_look 91 (cd_L_isInspected E) = t_al 92 0 := funext fun _ => rfl
theorem lo_L_isInspected_92 (E : kx_E) : kx_look 92 (cd_L_isInspected E) = t_il 93 1 := funext fun _ => rfl
theorem lo_L_isInspected_93 (E : kx_E) : kx_look 93 (cd_L_isInspected E) = t_push 94 (.int 4) := funext fun _ => rfl
theorem lo_L_isInspected_94 (E : kx_E) : kx_look 94 (cd_L_isInspected E) = t_fun (f2_X9_ofLot E) 0 0 97 3 := funext fun _ => rfl
theorem lo_L_isInspected_97 (E : kx_E) : kx_look 97 (cd_L_isInspected E) = t_ic 100 104 (fun x y => y < x) := funext fun _ => rfl
theorem lo_L_isInspected_100 (E : kx_E) : kx_look 100 (cd_L_isInspected E) = t_push 101 (.int 1) := funext fun _ => rfl
theorem lo_L_isInspected_101 (E : kx_E) : kx_look 101 (cd_L_isInspected E) = t_go 105 := funext fun _ => rfl
theorem lo_L_isInspected_104 (E : kx_E) : kx_look 104 (cd_L_isInspected E) = t_push 105 (.int 0) := funext fun _ => rfl
theorem lo_L_isInspected_105 (E : kx_E) : kx_look 105 (cd_L_isInspected E) = t_zret := funext fun _ => rfl
theorem lo_L_isBest_0 (E : kx_E) : kx_look 0 (cd_L_isBest E) = t_al 1 0 := funext fun _ => rfl
theorem lo_L_isBest_1 (E : kx_E) : kx_look 1 (cd_L_isBest E) = t_il 2 1 := funext fun _ => rfl
theorem lo_L_isBest_2 (E : kx_E) : kx_look 2 (cd_L_isBest E) = t_push 3 (.int 0) := funext fun _ => rfl
theorem lo_L_isBest_3 (E : kx_E) : kx_look 3 (cd_L_isBest E) = t_fun (f2_X9_ofLot E) 0 0 6 3 := funext fun _ => rfl
theorem lo_L_isBest_6 (E : kx_E) : kx_look 6 (cd_L_isBest E) = t_is 7 2 := funext fun _ => rfl
theorem lo_L_isBest_7 (E : kx_E) : kx_look 7 (cd_L_isBest E) = t_al 8 0 := funext fun _ => rfl
theorem lo_L_isBest_8 (E : kx_E) : kx_look 8 (cd_L_isBest E) = t_il 9 2 := funext fun _ => rfl
theorem lo_L_isBest_9 (E : kx_E) : kx_look 9 (cd_L_isBest E) = t_push 10 (.int 0) := funext fun _ => rfl
theorem lo_L_isBest_10 (E : kx_E) : kx_look 10 (cd_L_isBest E) = t_fun (f2_X9_ofGrower E) 0 0 13 3 := funext fun _ => rfl
theorem lo_L_isBest_13 (E : kx_E) : kx_look 13 (cd_L_isBest E) = t_is 14 3 := funext fun _ => rfl
theorem lo_L_isBest_14 (E : kx_E) : kx_look 14 (cd_L_isBest E) = t_al 15 0 := funext fun _ => rfl
theorem lo_L_isBest_15 (E : kx_E) : kx_look 15 (cd_L_isBest E) = t_il 16 1 := funext fun _ => rfl
theorem lo_L_isBest_16 (E : kx_E) : kx_look 16 (cd_L_isBest E) = t_push 17 (.int 4) := funext fun _ => rfl
theorem lo_L_isBest_17 (E : kx_E) : kx_look 17 (cd_L_isBest E) = t_fun (f2_X9_ofLot E) 0 0 20 3 := funext fun _ => rfl
theorem lo_L_isBest_20 (E : kx_E) : kx_look 20 (cd_L_isBest E) = t_is 22 4 := funext fun _ => rfl
theorem lo_L_isBest_22 (E : kx_E) : kx_look 22 (cd_L_isBest E) = t_al 23 0 := funext fun _ => rfl
theorem lo_L_isBest_23 (E : kx_E) : kx_look 23 (cd_L_isBest E) = t_il 24 1 := funext fun _ => rfl
theorem lo_L_isBest_24 (E : kx_E) : kx_look 24 (cd_L_isBest E) = t_fun (f2_X9_wouldFetch E) 0 0 27 2 := funext fun _ => rfl
theorem lo_L_isBest_27 (E : kx_E) : kx_look 27 (cd_L_isBest E) = t_is 29 5 := funext fun _ => rfl
theorem lo_L_isBest_29 (E : kx_E) : kx_look 29 (cd_L_isBest E) = t_al 30 0 := funext fun _ => rfl
theorem lo_L_isBest_30 (E : kx_E) : kx_look 30 (cd_L_isBest E) = t_il 31 1 := funext fun _ => rfl
theorem lo_L_isBest_31 (E : kx_E) : kx_look 31 (cd_L_isBest E) = t_fun (f2_X9_bestMinimum E) 0 0 34 2 := funext fun _ => rfl
theorem lo_L_isBest_34 (E : kx_E) : kx_look 34 (cd_L_isBest E) = t_is 36 6 := funext fun _ => rfl
theorem lo_L_isBest_36 (E : kx_E) : kx_look 36 (cd_L_isBest E) = t_al 37 0 := funext fun _ => rfl
theorem lo_L_isBest_37 (E : kx_E) : kx_look 37 (cd_L_isBest E) = t_push 39 (.int 11) := funext fun _ => rfl
theorem lo_L_isBest_39 (E : kx_E) : kx_look 39 (cd_L_isBest E) = t_fun (f2_X9_many E) 0 0 42 2 := funext fun _ => rfl
theorem lo_L_isBest_42 (E : kx_E) : kx_look 42 (cd_L_isBest E) = t_is 44 7 := funext fun _ => rfl
theorem lo_L_isBest_44 (E : kx_E) : kx_look 44 (cd_L_isBest E) = t_al 45 0 := funext fun _ => rfl
theorem lo_L_isBest_45 (E : kx_E) : kx_look 45 (cd_L_isBest E) = t_il 46 1 := funext fun _ => rfl
theorem lo_L_isBest_46 (E : kx_E) : kx_look 46 (cd_L_isBest E) = t_il 48 4 := funext fun _ => rfl
theorem lo_L_isBest_48 (E : kx_E) : kx_look 48 (cd_L_isBest E) = t_il 50 6 := funext fun _ => rfl
theorem lo_L_isBest_50 (E : kx_E) : kx_look 50 (cd_L_isBest E) = t_call (c2t_X9_bring E) 53 4 11 := funext fun _ => rfl
theorem lo_L_isBest_53 (E : kx_E) : kx_look 53 (cd_L_isBest E) = t_push 54 (.int 1) := funext fun _ => rfl
theorem lo_L_isBest_54 (E : kx_E) : kx_look 54 (cd_L_isBest E) = t_ic 57 59 (fun x y => x = y) := funext fun _ => rfl
theorem lo_L_isBest_57 (E : kx_E) : kx_look 57 (cd_L_isBest E) = t_push 58 (.int 0) := funext fun _ => rfl
theorem lo_L_isBest_58 (E : kx_E) : kx_look 58 (cd_L_isBest E) = t_zret := funext fun _ => rfl
theorem lo_L_isBest_59 (E : kx_E) : kx_look 59 (cd_L_isBest E) = t_al 60 0 := funext fun _ => rfl
theorem lo_L_isBest_60 (E : kx_E) : kx_look 60 (cd_L_isBest E) = t_call (c2t_X9_clock E) 63 1 11 := funext fun _ => rfl
theorem lo_L_isBest_63 (E : kx_E) : kx_look 63 (cd_L_isBest E) = t_is 65 8 := funext fun _ => rfl
theorem lo_L_isBest_65 (E : kx_E) : kx_look 65 (cd_L_isBest E) = t_al 66 0 := funext fun _ => rfl
theorem lo_L_isBest_66 (E : kx_E) : kx_look 66 (cd_L_isBest E) = t_il 67 2 := funext fun _ => rfl
theorem lo_L_isBest_67 (E : kx_E) : kx_look 67 (cd_L_isBest E) = t_push 68 (.int 0) := funext fun _ => rfl
theorem lo_L_isBest_68 (E : kx_E) : kx_look 68 (cd_L_isBest E) = t_fun (f2_X9_ofGrower E) 0 0 71 3 := funext fun _ => rfl
theorem lo_L_isBest_71 (E : kx_E) : kx_look 71 (cd_L_isBest E) = t_il 72 3 := funext fun _ => rfl
theorem lo_L_isBest_72 (E : kx_E) : kx_look 72 (cd_L_isBest E) = t_bin 73 (fun x y => x - y) := funext fun _ => rfl
theorem lo_L_isBest_73 (E : kx_E) : kx_look 73 (cd_L_isBest E) = t_is 75 9 := funext fun _ => rfl
theorem lo_L_isBest_75 (E : kx_E) : kx_look 75 (cd_L_isBest E) = t_al 76 0 := funext fun _ => rfl
theorem lo_L_isBest_76 (E : kx_E) : kx_look 76 (cd_L_isBest E) = t_push 78 (.int 11) := funext fun _ => rfl
theorem lo_L_isBest_78 (E : kx_E) : kx_look 78 (cd_L_isBest E) = t_fun (f2_X9_many E) 0 0 81 2 := funext fun _ => rfl
theorem lo_L_isBest_81 (E : kx_E) : kx_look 81 (cd_L_isBest E) = t_il 83 7 := funext fun _ => rfl
theorem lo_L_isBest_83 (E : kx_E) : kx_look 83 (cd_L_isBest E) = t_il 85 8 := funext fun _ => rfl
theorem lo_L_isBest_85 (E : kx_E) : kx_look 85 (cd_L_isBest E) = t_bin 86 (fun x y => x + y) := funext fun _ => rfl
theorem lo_L_isBest_86 (E : kx_E) : kx_look 86 (cd_L_isBest E) = t_ic 89 123 (fun x y => x ≠ y) := funext fun _ => rfl
theorem lo_L_isBest_89 (E : kx_E) : kx_look 89 (cd_L_isBest E) = t_il 91 5 := funext fun _ => rfl
theorem lo_L_isBest_91 (E : kx_E) : kx_look 91 (cd_L_isBest E) = t_if 94 106 (fun x => 0 ≤ x) := funext fun _ => rfl
theorem lo_L_isBest_94 (E : kx_E) : kx_look 94 (cd_L_isBest E) = t_il 96 8 := funext fun _ => rfl
theorem lo_L_isBest_96 (E : kx_E) : kx_look 96 (cd_L_isBest E) = t_if 99 123 (fun x => 0 < x) := funext fun _ => rfl
theorem lo_L_isBest_99 (E : kx_E) : kx_look 99 (cd_L_isBest E) = t_il 101 6 := funext fun _ => rfl
theorem lo_L_isBest_101 (E : kx_E) : kx_look 101 (cd_L_isBest E) = t_push 103 (.int 99) := funext fun _ => rfl
theorem lo_L_isBest_103 (E : kx_E) : kx_look 103 (cd_L_isBest E) = t_ic 106 123 (fun x y => x ≠ y) := funext fun _ => rfl
theorem lo_L_isBest_106 (E : kx_E) : kx_look 106 (cd_L_isBest E) = t_il 108 5 := funext fun _ => rfl
theorem lo_L_isBest_108 (E : kx_E) : kx_look 108 (cd_L_isBest E) = t_if 111 125 (fun x => x < 0) := funext fun _ => rfl
theorem lo_L_isBest_111 (E : kx_E) : kx_look 111 (cd_L_isBest E) = t_il 113 8 := funext fun _ => rfl
theorem lo_L_isBest_113 (E : kx_E) : kx_look 113 (cd_L_isBest E) = t_if 116 125 (fun x => x ≤ 0) := funext fun _ => rfl
theorem lo_L_isBest_116 (E : kx_E) : kx_look 116 (cd_L_isBest E) = t_il 118 6 := funext fun _ => rfl
theorem lo_L_isBest_118 (E : kx_E) : kx_look 118 (cd_L_isBest E) = t_il 120 5 := funext fun _ => rfl
theorem lo_L_isBest_120 (E : kx_E) : kx_look 120 (cd_L_isBest E) = t_ic 123 125 (fun x y => x ≤ y) := funext fun _ => rfl
theorem lo_L_isBest_123 (E : kx_E) : kx_look 123 (cd_L_isBest E) = t_push 124 (.int 0) := funext fun _ => rfl
theorem lo_L_isBest_124 (E : kx_E) : kx_look 124 (cd_L_isBest E) = t_zret := funext fun _ => rfl
theorem lo_L_isBest_125 (E : kx_E) : kx_look 125 (cd_L_isBest E) = t_il 127 8 := funext fun _ => rfl
theorem lo_L_isBest_127 (E : kx_E) : kx_look 127 (cd_L_isBest E) = t_is 129 10 := funext fun _ => rfl
theorem lo_L_isBest_129 (E : kx_E) : kx_look 129 (cd_L_isBest E) = t_il 131 10 := funext fun _ => rfl
theorem lo_L_isBest_131 (E : kx_E) : kx_look 131 (cd_L_isBest E) = t_if 134 146 (fun x => x ≤ 0) := funext fun _ => rfl
theorem lo_L_isBest_134 (E : kx_E) : kx_look 134 (cd_L_isBest E) = t_il 136 10 := funext fun _ => rfl
theorem lo_L_isBest_136 (E : kx_E) : kx_look 136 (cd_L_isBest E) = t_al 137 0 := funext fun _ => rfl
theorem lo_L_isBest_137 (E : kx_E) : kx_look 137 (cd_L_isBest E) = t_call (c2t_X9_undo E) 140 1 11 := funext fun _ => rfl
theorem lo_L_isBest_140 (E : kx_E) : kx_look 140 (cd_L_isBest E) = t_bin 141 (fun x y => x - y) := funext fun _ => rfl
theorem lo_L_isBest_141 (E : kx_E) : kx_look 141 (cd_L_isBest E) = t_is 143 10 := funext fun _ => rfl
theorem lo_L_isBest_143 (E : kx_E) : kx_look 143 (cd_L_isBest E) = t_gk 129 11 := funext fun _ => rfl
theorem lo_L_isBest_146 (E : kx_E) : kx_look 146 (cd_L_isBest E) = t_il 148 10 := funext fun _ => rfl
theorem lo_L_isBest_148 (E : kx_E) : kx_look 148 (cd_L_isBest E) = t_if 151 183 (fun x => x ≠ 0) := funext fun _ => rfl
theorem lo_L_isBest_151 (E : kx_E) : kx_look 151 (cd_L_isBest E) = t_al 152 0 := funext fun _ => rfl
theorem lo_L_isBest_152 (E : kx_E) : kx_look 152 (cd_L_isBest E) = t_il 153 2 := funext fun _ => rfl
theorem lo_L_isBest_153 (E : kx_E) : kx_look 153 (cd_L_isBest E) = t_push 154 (.int 0) := funext fun _ => rfl
theorem lo_L_isBest_154 (E : kx_E) : kx_look 154 (cd_L_isBest E) = t_fun (f2_X9_ofGrower E) 0 0 157 3 := funext fun _ => rfl
theorem lo_L_isBest_157 (E : kx_E) : kx_look 157 (cd_L_isBest E) = t_il 158 3 := funext fun _ => rfl
theorem lo_L_isBest_158 (E : kx_E) : kx_look 158 (cd_L_isBest E) = t_ic 161 183 (fun x y => x ≠ y) := funext fun _ => rfl
theorem lo_L_isBest_161 (E : kx_E) : kx_look 161 (cd_L_isBest E) = t_al 162 0 := funext fun _ => rfl
theorem lo_L_isBest_162 (E : kx_E) : kx_look 162 (cd_L_isBest E) = t_il 163 1 := funext fun _ => rfl
theorem lo_L_isBest_163 (E : kx_E) : kx_look 163 (cd_L_isBest E) = t_fun (f2_X9_wouldFetch E) 0 0 166 2 := funext fun _ => rfl
theorem lo_L_isBest_166 (E : kx_E) : kx_look 166 (cd_L_isBest E) = t_il 168 5 := funext fun _ => rfl
theorem lo_L_isBest_168 (E : kx_E) : kx_look 168 (cd_L_isBest E) = t_ic 171 183 (fun x y => x ≠ y) := funext fun _ => rfl
theorem lo_L_isBest_171 (E : kx_E) : kx_look 171 (cd_L_isBest E) = t_al 172 0 := funext fun _ => rfl
theorem lo_L_isBest_172 (E : kx_E) : kx_look 172 (cd_L_isBest E) = t_il 173 1 := funext fun _ => rfl
theorem lo_L_isBest_173 (E : kx_E) : kx_look 173 (cd_L_isBest E) = t_il 175 4 := funext fun _ => rfl
theorem lo_L_isBest_175 (E : kx_E) : kx_look 175 (cd_L_isBest E) = t_push 176 (.int 1) := funext fun _ => rfl
theorem lo_L_isBest_176 (E : kx_E) : kx_look 176 (cd_L_isBest E) = t_call (c2t_X9_bring E) 179 4 11 := funext fun _ => rfl
theorem lo_L_isBest_179 (E : kx_E) : kx_look 179 (cd_L_isBest E) = t_push 180 (.int 1) := funext fun _ => rfl
theorem lo_L_isBest_180 (E : kx_E) : kx_look 180 (cd_L_isBest E) = t_ic 183 185 (fun x y => x = y) := funext fun _ => rfl
theorem lo_L_isBest_183 (E : kx_E) : kx_look 183 (cd_L_isBest E) = t_push 184 (.int 0) := funext fun _ => rfl
theorem lo_L_isBest_184 (E : kx_E) : kx_look 184 (cd_L_isBest E) = t_zret := funext fun _ => rfl
theorem lo_L_isBest_185 (E : kx_E) : kx_look 185 (cd_L_isBest E) = t_al 186 0 := funext fun _ => rfl
theorem lo_L_isBest_186 (E : kx_E) : kx_look 186 (cd_L_isBest E) = t_call (c2t_X9_clock E) 189 1 11 := funext fun _ => rfl
theorem lo_L_isBest_189 (E : kx_E) : kx_look 189 (cd_L_isBest E) = t_is 191 11 := funext fun _ => rfl
theorem lo_L_isBest_191 (E : kx_E) : kx_look 191 (cd_L_isBest E) = t_il 193 11 := funext fun _ => rfl
theorem lo_L_isBest_193 (E : kx_E) : kx_look 193 (cd_L_isBest E) = t_il 195 8 := funext fun _ => rfl
theorem lo_L_isBest_195 (E : kx_E) : kx_look 195 (cd_L_isBest E) = t_ic 198 238 (fun x y => x < y) := funext fun _ => rfl
theorem lo_L_isBest_198 (E : kx_E) : kx_look 198 (cd_L_isBest E) = t_al 199 0 := funext fun _ => rfl
theorem lo_L_isBest_199 (E : kx_E) : kx_look 199 (cd_L_isBest E) = t_il 200 2 := funext fun _ => rfl
theorem lo_L_isBest_200 (E : kx_E) : kx_look 200 (cd_L_isBest E) = t_push 201 (.int 0) := funext fun _ => rfl
theorem lo_L_isBest_201 (E : kx_E) : kx_look 201 (cd_L_isBest E) = t_fun (f2_X9_ofGrower E) 0 0 204 3 := funext fun _ => rfl
theorem lo_L_isBest_204 (E : kx_E) : kx_look 204 (cd_L_isBest E) = t_il 205 3 := funext fun _ => rfl
theorem lo_L_isBest_205 (E : kx_E) : kx_look 205 (cd_L_isBest E) = t_bin 206 (fun x y => x - y) := funext fun _ => rfl
theorem lo_L_isBest_206 (E : kx_E) : kx_look 206 (cd_L_isBest E) = t_il 208 9 := funext fun _ => rfl
theorem lo_L_isBest_208 (E : kx_E) : kx_look 208 (cd_L_isBest E) = t_ic 211 238 (fun x y => y < x) := funext fun _ => rfl
theorem lo_L_isBest_211 (E : kx_E) : kx_look 211 (cd_L_isBest E) = t_il 213 11 := funext fun _ => rfl
theorem lo_L_isBest_213 (E : kx_E) : kx_look 213 (cd_L_isBest E) = t_if 216 220 (fun x => x ≤ 0) := funext fun _ => rfl
theorem lo_L_isBest_216 (E : kx_E) : kx_look 216 (cd_L_isBest E) = t_push 217 (.int 1) := funext fun _ => rfl
theorem lo_L_isBest_217 (E : kx_E) : kx_look 217 (cd_L_isBest E) = t_go 221 := funext fun _ => rfl
theorem lo_L_isBest_220 (E : kx_E) : kx_look 220 (cd_L_isBest E) = t_push 221 (.int 0) := funext fun _ => rfl
theorem lo_L_isBest_221 (E : kx_E) : kx_look 221 (cd_L_isBest E) = t_il 223 5 := funext fun _ => rfl
theorem lo_L_isBest_223 (E : kx_E) : kx_look 223 (cd_L_isBest E) = t_if 226 230 (fun x => x ≤ 0) := funext fun _ => rfl
theorem lo_L_isBest_226 (E : kx_E) : kx_look 226 (cd_L_isBest E) = t_push 227 (.int 1) := funext fun _ => rfl
theorem lo_L_isBest_227 (E : kx_E) : kx_look 227 (cd_L_isBest E) = t_go 231 := funext fun _ => rfl
theorem lo_L_isBest_230 (E : kx_E) : kx_look 230 (cd_L_isBest E) = t_push 231 (.int 0) := funext fun _ => rfl
theorem lo_L_isBest_231 (E : kx_E) : kx_look 231 (cd_L_isBest E) = t_ic 234 238 (fun x y => x ≠ y) := funext fun _ => rfl
theorem lo_L_isBest_234 (E : kx_E) : kx_look 234 (cd_L_isBest E) = t_push 235 (.int 1) := funext fun _ => rfl
theorem lo_L_isBest_235 (E : kx_E) : kx_look 235 (cd_L_isBest E) = t_go 239 := funext fun _ => rfl
theorem lo_L_isBest_238 (E : kx_E) : kx_look 238 (cd_L_isBest E) = t_push 239 (.int 0) := funext fun _ => rfl
theorem lo_L_isBest_239 (E : kx_E) : kx_look 239 (cd_L_isBest E) = t_zret := funext fun _ => rfl
theorem lo_L_isClocked_0 (E : kx_E) : kx_look 0 (cd_L_isClocked E) = t_al 1 0 := funext fun _ => rfl
theorem lo_L_isClocked_1 (E : kx_E) : kx_look 1 (cd_L_isClocked E) = t_push 2 (.int 0) := funext fun _ => rfl
theorem lo_L_isClocked_2 (E : kx_E) : kx_look 2 (cd_L_isClocked E) = t_fun (f2_X9_row E) 0 0 5 2 := funext fun _ => rfl
theorem lo_L_isClocked_5 (E : kx_E) : kx_look 5 (cd_L_isClocked E) = t_is 6 1 := funext fun _ => rfl
theorem lo_L_isClocked_6 (E : kx_E) : kx_look 6 (cd_L_isClocked E) = t_al 7 0 := funext fun _ => rfl
theorem lo_L_isClocked_7 (E : kx_E) : kx_look 7 (cd_L_isClocked E) = t_push 8 (.int 1) := funext fun _ => rfl
theorem lo_L_isClocked_8 (E : kx_E) : kx_look 8 (cd_L_isClocked E) = t_fun (f2_X9_row E) 0 0 11 2 := funext fun _ => rfl
theorem lo_L_isClocked_11 (E : kx_E) : kx_look 11 (cd_L_isClocked E) = t_is 12 2 := funext fun _ => rfl
theorem lo_L_isClocked_12 (E : kx_E) : kx_look 12 (cd_L_isClocked E) = t_al 13 0 := funext fun _ => rfl
theorem lo_L_isClocked_13 (E : kx_E) : kx_look 13 (cd_L_isClocked E) = t_il 14 1 := funext fun _ => rfl
theorem lo_L_isClocked_14 (E : kx_E) : kx_look 14 (cd_L_isClocked E) = t_push 15 (.int 2) := funext fun _ => rfl
theorem lo_L_isClocked_15 (E : kx_E) : kx_look 15 (cd_L_isClocked E) = t_fun (f2_X9_ofLot E) 0 0 18 3 := funext fun _ => rfl
theorem lo_L_isClocked_18 (E : kx_E) : kx_look 18 (cd_L_isClocked E) = t_is 19 3 := funext fun _ => rfl
theorem lo_L_isClocked_19 (E : kx_E) : kx_look 19 (cd_L_isClocked E) = t_al 20 0 := funext fun _ => rfl
theorem lo_L_isClocked_20 (E : kx_E) : kx_look 20 (cd_L_isClocked E) = t_il 21 1 := funext fun _ => rfl
theorem lo_L_isClocked_21 (E : kx_E) : kx_look 21 (cd_L_isClocked E) = t_push 23 (.int 9) := funext fun _ => rfl
theorem lo_L_isClocked_23 (E : kx_E) : kx_look 23 (cd_L_isClocked E) = t_fun (f2_X9_ofLot E) 0 0 26 3 := funext fun _ => rfl
theorem lo_L_isClocked_26 (E : kx_E) : kx_look 26 (cd_L_isClocked E) = t_is 28 4 := funext fun _ => rfl
theorem lo_L_isClocked_28 (E : kx_E) : kx_look 28 (cd_L_isClocked E) = t_al 29 0 := funext fun _ => rfl
theorem lo_L_isClocked_29 (E : kx_E) : kx_look 29 (cd_L_isClocked E) = t_push 31 (.int 7) := funext fun _ => rfl
theorem lo_L_isClocked_31 (E : kx_E) : kx_look 31 (cd_L_isClocked E) = t_fun (f2_X9_many E) 0 0 34 2 := funext fun _ => rfl
theorem lo_L_isClocked_34 (E : kx_E) : kx_look 34 (cd_L_isClocked E) = t_is 36 5 := funext fun _ => rfl
theorem lo_L_isClocked_36 (E : kx_E) : kx_look 36 (cd_L_isClocked E) = t_al 37 0 := funext fun _ => rfl
theorem lo_L_isClocked_37 (E : kx_E) : kx_look 37 (cd_L_isClocked E) = t_call (c2t_X9_clock E) 40 1 11 := funext fun _ => rfl
theorem lo_L_isClocked_40 (E : kx_E) : kx_look 40 (cd_L_isClocked E) = t_is 42 6 := funext fun _ => rfl
theorem lo_L_isClocked_42 (E : kx_E) : kx_look 42 (cd_L_isClocked E) = t_al 43 0 := funext fun _ => rfl
theorem lo_L_isClocked_43 (E : kx_E) : kx_look 43 (cd_L_isClocked E) = t_il 44 1 := funext fun _ => rfl
theorem lo_L_isClocked_44 (E : kx_E) : kx_look 44 (cd_L_isClocked E) = t_push 45 (.int 2) := funext fun _ => rfl
theorem lo_L_isClocked_45 (E : kx_E) : kx_look 45 (cd_L_isClocked E) = t_fun (f2_X9_ofLot E) 0 0 48 3 := funext fun _ => rfl
theorem lo_L_isClocked_48 (E : kx_E) : kx_look 48 (cd_L_isClocked E) = t_il 49 3 := funext fun _ => rfl
theorem lo_L_isClocked_49 (E : kx_E) : kx_look 49 (cd_L_isClocked E) = t_il 51 6 := funext fun _ => rfl
theorem lo_L_isClocked_51 (E : kx_E) : kx_look 51 (cd_L_isClocked E) = t_bin 52 (fun x y => x - y) := funext fun _ => rfl
theorem lo_L_isClocked_52 (E : kx_E) : kx_look 52 (cd_L_isClocked E) = t_ic 55 114 (fun x y => x ≠ y) := funext fun _ => rfl
theorem lo_L_isClocked_55 (E : kx_E) : kx_look 55 (cd_L_isClocked E) = t_al 56 0 := funext fun _ => rfl
theorem lo_L_isClocked_56 (E : kx_E) : kx_look 56 (cd_L_isClocked E) = t_il 57 1 := funext fun _ => rfl
theorem lo_L_isClocked_57 (E : kx_E) : kx_look 57 (cd_L_isClocked E) = t_push 59 (.int 7) := funext fun _ => rfl
theorem lo_L_isClocked_59 (E : kx_E) : kx_look 59 (cd_L_isClocked E) = t_fun (f2_X9_ofLot E) 0 0 62 3 := funext fun _ => rfl
theorem lo_L_isClocked_62 (E : kx_E) : kx_look 62 (cd_L_isClocked E) = t_il 64 6 := funext fun _ => rfl
theorem lo_L_isClocked_64 (E : kx_E) : kx_look 64 (cd_L_isClocked E) = t_il 65 3 := funext fun _ => rfl
theorem lo_L_isClocked_65 (E : kx_E) : kx_look 65 (cd_L_isClocked E) = t_ic 68 72 (fun x y => x ≠ y) := funext fun _ => rfl
theorem lo_L_isClocked_68 (E : kx_E) : kx_look 68 (cd_L_isClocked E) = t_push 69 (.int 2) := funext fun _ => rfl
theorem lo_L_isClocked_69 (E : kx_E) : kx_look 69 (cd_L_isClocked E) = t_go 73 := funext fun _ => rfl
theorem lo_L_isClocked_72 (E : kx_E) : kx_look 72 (cd_L_isClocked E) = t_push 73 (.int 0) := funext fun _ => rfl
theorem lo_L_isClocked_73 (E : kx_E) : kx_look 73 (cd_L_isClocked E) = t_ic 76 114 (fun x y => x ≠ y) := funext fun _ => rfl
theorem lo_L_isClocked_76 (E : kx_E) : kx_look 76 (cd_L_isClocked E) = t_al 77 0 := funext fun _ => rfl
theorem lo_L_isClocked_77 (E : kx_E) : kx_look 77 (cd_L_isClocked E) = t_push 78 (.int 0) := funext fun _ => rfl
theorem lo_L_isClocked_78 (E : kx_E) : kx_look 78 (cd_L_isClocked E) = t_fun (f2_X9_row E) 0 0 81 2 := funext fun _ => rfl
theorem lo_L_isClocked_81 (E : kx_E) : kx_look 81 (cd_L_isClocked E) = t_il 82 2 := funext fun _ => rfl
theorem lo_L_isClocked_82 (E : kx_E) : kx_look 82 (cd_L_isClocked E) = t_ic 85 114 (fun x y => x ≠ y) := funext fun _ => rfl
theorem lo_L_isClocked_85 (E : kx_E) : kx_look 85 (cd_L_isClocked E) = t_al 86 0 := funext fun _ => rfl
theorem lo_L_isClocked_86 (E : kx_E) : kx_look 86 (cd_L_isClocked E) = t_push 88 (.int 7) := funext fun _ => rfl
theorem lo_L_isClocked_88 (E : kx_E) : kx_look 88 (cd_L_isClocked E) = t_fun (f2_X9_many E) 0 0 91 2 := funext fun _ => rfl
theorem lo_L_isClocked_91 (E : kx_E) : kx_look 91 (cd_L_isClocked E) = t_il 93 5 := funext fun _ => rfl
theorem lo_L_isClocked_93 (E : kx_E) : kx_look 93 (cd_L_isClocked E) = t_ic 96 100 (fun x y => x ≤ y) := funext fun _ => rfl
theorem lo_L_isClocked_96 (E : kx_E) : kx_look 96 (cd_L_isClocked E) = t_push 97 (.int 1) := funext fun _ => rfl
theorem lo_L_isClocked_97 (E : kx_E) : kx_look 97 (cd_L_isClocked E) = t_go 101 := funext fun _ => rfl
theorem lo_L_isClocked_100 (E : kx_E) : kx_look 100 (cd_L_isClocked E) = t_push 101 (.int 0) := funext fun _ => rfl
theorem lo_L_isClocked_101 (E : kx_E) : kx_look 101 (cd_L_isClocked E) = t_il 103 6 := funext fun _ => rfl
theorem lo_L_isClocked_103 (E : kx_E) : kx_look 103 (cd_L_isClocked E) = t_if 106 110 (fun x => x ≤ 0) := funext fun _ => rfl
theorem lo_L_isClocked_106 (E : kx_E) : kx_look 106 (cd_L_isClocked E) = t_push 107 (.int 1) := funext fun _ => rfl
theorem lo_L_isClocked_107 (E : kx_E) : kx_look 107 (cd_L_isClocked E) = t_go 111 := funext fun _ => rfl
theorem lo_L_isClocked_110 (E : kx_E) : kx_look 110 (cd_L_isClocked E) = t_push 111 (.int 0) := funext fun _ => rfl
theorem lo_L_isClocked_111 (E : kx_E) : kx_look 111 (cd_L_isClocked E) = t_ic 114 116 (fun x y => x = y) := funext fun _ => rfl
theorem lo_L_isClocked_114 (E : kx_E) : kx_look 114 (cd_L_isClocked E) = t_push 115 (.int 0) := funext fun _ => rfl
theorem lo_L_isClocked_115 (E : kx_E) : kx_look 115 (cd_L_isClocked E) = t_zret := funext fun _ => rfl
theorem lo_L_isClocked_116 (E : kx_E) : kx_look 116 (cd_L_isClocked E) = t_push 117 (.int 0) := funext fun _ => rfl
theorem lo_L_isClocked_117 (E : kx_E) : kx_look 117 (cd_L_isClocked E) = t_is 119 7 := funext fun _ => rfl
theorem lo_L_isClocked_119 (E : kx_E) : kx_look 119 (cd_L_isClocked E) = t_push 120 (.int 0) := funext fun _ => rfl
theorem lo_L_isClocked_120 (E : kx_E) : kx_look 120 (cd_L_isClocked E) = t_is 122 8 := funext fun _ => rfl
theorem lo_L_isClocked_122 (E : kx_E) : kx_look 122 (cd_L_isClocked E) = t_il 124 8 := funext fun _ => rfl
theorem lo_L_isClocked_124 (E : kx_E) : kx_look 124 (cd_L_isClocked E) = t_al 125 0 := funext fun _ => rfl
theorem lo_L_isClocked_125 (E : kx_E) : kx_look 125 (cd_L_isClocked E) = t_push 127 (.int 7) := funext fun _ => rfl
theorem lo_L_isClocked_127 (E : kx_E) : kx_look 127 (cd_L_isClocked E) = t_fun (f2_X9_many E) 0 0 130 2 := funext fun _ => rfl
theorem lo_L_isClocked_130 (E : kx_E) : kx_look 130 (cd_L_isClocked E) = t_il 132 5 := funext fun _ => rfl
theorem lo_L_isClocked_132 (E : kx_E) : kx_look 132 (cd_L_isClocked E) = t_bin 133 (fun x y => x - y) := funext fun _ => rfl
theorem lo_L_isClocked_133 (E : kx_E) : kx_look 133 (cd_L_isClocked E) = t_ic 136 213 (fun x y => y ≤ x) := funext fun _ => rfl
theorem lo_L_isClocked_136 (E : kx_E) : kx_look 136 (cd_L_isClocked E) = t_il 138 8 := funext fun _ => rfl
theorem lo_L_isClocked_138 (E : kx_E) : kx_look 138 (cd_L_isClocked E) = t_push 140 (.int 20) := funext fun _ => rfl
theorem lo_L_isClocked_140 (E : kx_E) : kx_look 140 (cd_L_isClocked E) = t_ic 143 213 (fun x y => y ≤ x) := funext fun _ => rfl
theorem lo_L_isClocked_143 (E : kx_E) : kx_look 143 (cd_L_isClocked E) = t_al 144 0 := funext fun _ => rfl
theorem lo_L_isClocked_144 (E : kx_E) : kx_look 144 (cd_L_isClocked E) = t_il 146 8 := funext fun _ => rfl
theorem lo_L_isClocked_146 (E : kx_E) : kx_look 146 (cd_L_isClocked E) = t_push 147 (.int 0) := funext fun _ => rfl
theorem lo_L_isClocked_147 (E : kx_E) : kx_look 147 (cd_L_isClocked E) = t_fun (f2_X9_sale E) 0 0 150 3 := funext fun _ => rfl
theorem lo_L_isClocked_150 (E : kx_E) : kx_look 150 (cd_L_isClocked E) = t_il 151 1 := funext fun _ => rfl
theorem lo_L_isClocked_151 (E : kx_E) : kx_look 151 (cd_L_isClocked E) = t_ic 154 193 (fun x y => x ≠ y) := funext fun _ => rfl
theorem lo_L_isClocked_154 (E : kx_E) : kx_look 154 (cd_L_isClocked E) = t_al 155 0 := funext fun _ => rfl
theorem lo_L_isClocked_155 (E : kx_E) : kx_look 155 (cd_L_isClocked E) = t_il 157 8 := funext fun _ => rfl
theorem lo_L_isClocked_157 (E : kx_E) : kx_look 157 (cd_L_isClocked E) = t_push 158 (.int 3) := funext fun _ => rfl
theorem lo_L_isClocked_158 (E : kx_E) : kx_look 158 (cd_L_isClocked E) = t_fun (f2_X9_sale E) 0 0 161 3 := funext fun _ => rfl
theorem lo_L_isClocked_161 (E : kx_E) : kx_look 161 (cd_L_isClocked E) = t_il 163 4 := funext fun _ => rfl
theorem lo_L_isClocked_163 (E : kx_E) : kx_look 163 (cd_L_isClocked E) = t_ic 166 193 (fun x y => x < y) := funext fun _ => rfl
theorem lo_L_isClocked_166 (E : kx_E) : kx_look 166 (cd_L_isClocked E) = t_al 167 0 := funext fun _ => rfl
theorem lo_L_isClocked_167 (E : kx_E) : kx_look 167 (cd_L_isClocked E) = t_il 169 8 := funext fun _ => rfl
theorem lo_L_isClocked_169 (E : kx_E) : kx_look 169 (cd_L_isClocked E) = t_push 170 (.int 3) := funext fun _ => rfl
theorem lo_L_isClocked_170 (E : kx_E) : kx_look 170 (cd_L_isClocked E) = t_fun (f2_X9_sale E) 0 0 173 3 := funext fun _ => rfl
theorem lo_L_isClocked_173 (E : kx_E) : kx_look 173 (cd_L_isClocked E) = t_push 175 (.int 99) := funext fun _ => rfl
theorem lo_L_isClocked_175 (E : kx_E) : kx_look 175 (cd_L_isClocked E) = t_ic 178 193 (fun x y => y < x) := funext fun _ => rfl
theorem lo_L_isClocked_178 (E : kx_E) : kx_look 178 (cd_L_isClocked E) = t_al 179 0 := funext fun _ => rfl
theorem lo_L_isClocked_179 (E : kx_E) : kx_look 179 (cd_L_isClocked E) = t_il 181 8 := funext fun _ => rfl
theorem lo_L_isClocked_181 (E : kx_E) : kx_look 181 (cd_L_isClocked E) = t_push 182 (.int 4) := funext fun _ => rfl
theorem lo_L_isClocked_182 (E : kx_E) : kx_look 182 (cd_L_isClocked E) = t_fun (f2_X9_sale E) 0 0 185 3 := funext fun _ => rfl
theorem lo_L_isClocked_185 (E : kx_E) : kx_look 185 (cd_L_isClocked E) = t_al 186 0 := funext fun _ => rfl
theorem lo_L_isClocked_186 (E : kx_E) : kx_look 186 (cd_L_isClocked E) = t_push 187 (.int 0) := funext fun _ => rfl
theorem lo_L_isClocked_187 (E : kx_E) : kx_look 187 (cd_L_isClocked E) = t_fun (f2_X9_many E) 0 0 190 2 := funext fun _ => rfl
theorem lo_L_isClocked_190 (E : kx_E) : kx_look 190 (cd_L_isClocked E) = t_ic 193 195 (fun x y => x = y) := funext fun _ => rfl
theorem lo_L_isClocked_193 (E : kx_E) : kx_look 193 (cd_L_isClocked E) = t_push 194 (.int 0) := funext fun _ => rfl
theorem lo_L_isClocked_194 (E : kx_E) : kx_look 194 (cd_L_isClocked E) = t_zret := funext fun _ => rfl
theorem lo_L_isClocked_195 (E : kx_E) : kx_look 195 (cd_L_isClocked E) = t_il 197 7 := funext fun _ => rfl
theorem lo_L_isClocked_197 (E : kx_E) : kx_look 197 (cd_L_isClocked E) = t_al 198 0 := funext fun _ => rfl
theorem lo_L_isClocked_198 (E : kx_E) : kx_look 198 (cd_L_isClocked E) = t_il 200 8 := funext fun _ => rfl
theorem lo_L_isClocked_200 (E : kx_E) : kx_look 200 (cd_L_isClocked E) = t_push 201 (.int 2) := funext fun _ => rfl
theorem lo_L_isClocked_201 (E : kx_E) : kx_look 201 (cd_L_isClocked E) = t_fun (f2_X9_sale E) 0 0 204 3 := funext fun _ => rfl
theorem lo_L_isClocked_204 (E : kx_E) : kx_look 204 (cd_L_isClocked E) = t_bin 205 (fun x y => x + y) := funext fun _ => rfl
theorem lo_L_isClocked_205 (E : kx_E) : kx_look 205 (cd_L_isClocked E) = t_is 207 7 := funext fun _ => rfl
theorem lo_L_isClocked_207 (E : kx_E) : kx_look 207 (cd_L_isClocked E) = t_inc 210 8 1 := funext fun _ => rfl
theorem lo_L_isClocked_210 (E : kx_E) : kx_look 210 (cd_L_isClocked E) = t_gk 122 9 := funext fun _ => rfl
theorem lo_L_isClocked_213 (E : kx_E) : kx_look 213 (cd_L_isClocked E) = t_il 215 7 := funext fun _ => rfl
theorem lo_L_isClocked_215 (E : kx_E) : kx_look 215 (cd_L_isClocked E) = t_il 217 6 := funext fun _ => rfl
theorem lo_L_isClocked_217 (E : kx_E) : kx_look 217 (cd_L_isClocked E) = t_ic 220 224 (fun x y => x ≠ y) := funext fun _ => rfl
theorem lo_L_isClocked_220 (E : kx_E) : kx_look 220 (cd_L_isClocked E) = t_push 221 (.int 1) := funext fun _ => rfl
theorem lo_L_isClocked_221 (E : kx_E) : kx_look 221 (cd_L_isClocked E) = t_go 225 := funext fun _ => rfl
theorem lo_L_isClocked_224 (E : kx_E) : kx_look 224 (cd_L_isClocked E) = t_push 225 (.int 0) := funext fun _ => rfl
theorem lo_L_isClocked_225 (E : kx_E) : kx_look 225 (cd_L_isClocked E) = t_zret := funext fun _ => rfl
theorem lo_L_isUndone_0 (E : kx_E) : kx_look 0 (cd_L_isUndone E) = t_push 2 (.int 6) := funext fun _ => rfl
theorem lo_L_isUndone_2 (E : kx_E) : kx_look 2 (cd_L_isUndone E) = t_nwa 4 := funext fun _ => rfl
theorem lo_L_isUndone_4 (E : kx_E) : kx_look 4 (cd_L_isUndone E) = t_dup 5 := funext fun _ => rfl
theorem lo_L_isUndone_5 (E : kx_E) : kx_look 5 (cd_L_isUndone E) = t_push 6 (.int 0) := funext fun _ => rfl
theorem lo_L_isUndone_6 (E : kx_E) : kx_look 6 (cd_L_isUndone E) = t_al 7 0 := funext fun _ => rfl
theorem lo_L_isUndone_7 (E : kx_E) : kx_look 7 (cd_L_isUndone E) = t_il 8 2 := funext fun _ => rfl
theorem lo_L_isUndone_8 (E : kx_E) : kx_look 8 (cd_L_isUndone E) = t_push 9 (.int 0) := funext fun _ => rfl
theorem lo_L_isUndone_9 (E : kx_E) : kx_look 9 (cd_L_isUndone E) = t_fun (f2_X9_ofBuyer E) 0 0 12 3 := funext fun _ => rfl
theorem lo_L_isUndone_12 (E : kx_E) : kx_look 12 (cd_L_isUndone E) = t_ias 13 := funext fun _ => rfl
theorem lo_L_isUndone_13 (E : kx_E) : kx_look 13 (cd_L_isUndone E) = t_dup 14 := funext fun _ => rfl
theorem lo_L_isUndone_14 (E : kx_E) : kx_look 14 (cd_L_isUndone E) = t_push 15 (.int 1) := funext fun _ => rfl
theorem lo_L_isUndone_15 (E : kx_E) : kx_look 15 (cd_L_isUndone E) = t_al 16 0 := funext fun _ => rfl
theorem lo_L_isUndone_16 (E : kx_E) : kx_look 16 (cd_L_isUndone E) = t_il 17 2 := funext fun _ => rfl
theorem lo_L_isUndone_17 (E : kx_E) : kx_look 17 (cd_L_isUndone E) = t_push 19 (.int 7) := funext fun _ => rfl
theorem lo_L_isUndone_19 (E : kx_E) : kx_look 19 (cd_L_isUndone E) = t_fun (f2_X9_ofBuyer E) 0 0 22 3 := funext fun _ => rfl
theorem lo_L_isUndone_22 (E : kx_E) : kx_look 22 (cd_L_isUndone E) = t_ias 23 := funext fun _ => rfl
theorem lo_L_isUndone_23 (E : kx_E) : kx_look 23 (cd_L_isUndone E) = t_dup 24 := funext fun _ => rfl
theorem lo_L_isUndone_24 (E : kx_E) : kx_look 24 (cd_L_isUndone E) = t_push 25 (.int 2) := funext fun _ => rfl
theorem lo_L_isUndone_25 (E : kx_E) : kx_look 25 (cd_L_isUndone E) = t_al 26 0 := funext fun _ => rfl
theorem lo_L_isUndone_26 (E : kx_E) : kx_look 26 (cd_L_isUndone E) = t_il 27 1 := funext fun _ => rfl
theorem lo_L_isUndone_27 (E : kx_E) : kx_look 27 (cd_L_isUndone E) = t_push 28 (.int 2) := funext fun _ => rfl
theorem lo_L_isUndone_28 (E : kx_E) : kx_look 28 (cd_L_isUndone E) = t_fun (f2_X9_ofLot E) 0 0 31 3 := funext fun _ => rfl
theorem lo_L_isUndone_31 (E : kx_E) : kx_look 31 (cd_L_isUndone E) = t_ias 32 := funext fun _ => rfl
theorem lo_L_isUndone_32 (E : kx_E) : kx_look 32 (cd_L_isUndone E) = t_dup 33 := funext fun _ => rfl
theorem lo_L_isUndone_33 (E : kx_E) : kx_look 33 (cd_L_isUndone E) = t_push 34 (.int 3) := funext fun _ => rfl
theorem lo_L_isUndone_34 (E : kx_E) : kx_look 34 (cd_L_isUndone E) = t_al 35 0 := funext fun _ => rfl
theorem lo_L_isUndone_35 (E : kx_E) : kx_look 35 (cd_L_isUndone E) = t_il 36 1 := funext fun _ => rfl
theorem lo_L_isUndone_36 (E : kx_E) : kx_look 36 (cd_L_isUndone E) = t_push 37 (.int 5) := funext fun _ => rfl
theorem lo_L_isUndone_37 (E : kx_E) : kx_look 37 (cd_L_isUndone E) = t_fun (f2_X9_ofLot E) 0 0 40 3 := funext fun _ => rfl
theorem lo_L_isUndone_40 (E : kx_E) : kx_look 40 (cd_L_isUndone E) = t_ias 41 := funext fun _ => rfl
theorem lo_L_isUndone_41 (E : kx_E) : kx_look 41 (cd_L_isUndone E) = t_dup 42 := funext fun _ => rfl
theorem lo_L_isUndone_42 (E : kx_E) : kx_look 42 (cd_L_isUndone E) = t_push 43 (.int 4) := funext fun _ => rfl
theorem lo_L_isUndone_43 (E : kx_E) : kx_look 43 (cd_L_isUndone E) = t_al 44 0 := funext fun _ => rfl
theorem lo_L_isUndone_44 (E : kx_E) : kx_look 44 (cd_L_isUndone E) = t_push 46 (.int 9) := funext fun _ => rfl
theorem lo_L_isUndone_46 (E : kx_E) : kx_look 46 (cd_L_isUndone E) = t_fun (f2_X9_many E) 0 0 49 2 := funext fun _ => rfl
theorem lo_L_isUndone_49 (E : kx_E) : kx_look 49 (cd_L_isUndone E) = t_ias 50 := funext fun _ => rfl
theorem lo_L_isUndone_50 (E : kx_E) : kx_look 50 (cd_L_isUndone E) = t_dup 51 := funext fun _ => rfl
theorem lo_L_isUndone_51 (E : kx_E) : kx_look 51 (cd_L_isUndone E) = t_push 52 (.int 5) := funext fun _ => rfl
theorem lo_L_isUndone_52 (E : kx_E) : kx_look 52 (cd_L_isUndone E) = t_al 53 0 := funext fun _ => rfl
theorem lo_L_isUndone_53 (E : kx_E) : kx_look 53 (cd_L_isUndone E) = t_push 55 (.int 7) := funext fun _ => rfl
theorem lo_L_isUndone_55 (E : kx_E) : kx_look 55 (cd_L_isUndone E) = t_fun (f2_X9_many E) 0 0 58 2 := funext fun _ => rfl
theorem lo_L_isUndone_58 (E : kx_E) : kx_look 58 (cd_L_isUndone E) = t_ias 59 := funext fun _ => rfl
theorem lo_L_isUndone_59 (E : kx_E) : kx_look 59 (cd_L_isUndone E) = t_as 61 6 := funext fun _ => rfl
theorem lo_L_isUndone_61 (E : kx_E) : kx_look 61 (cd_L_isUndone E) = t_al 62 0 := funext fun _ => rfl
theorem lo_L_isUndone_62 (E : kx_E) : kx_look 62 (cd_L_isUndone E) = t_al 63 0 := funext fun _ => rfl
theorem lo_L_isUndone_63 (E : kx_E) : kx_look 63 (cd_L_isUndone E) = t_il 64 1 := funext fun _ => rfl
theorem lo_L_isUndone_64 (E : kx_E) : kx_look 64 (cd_L_isUndone E) = t_push 65 (.int 0) := funext fun _ => rfl
theorem lo_L_isUndone_65 (E : kx_E) : kx_look 65 (cd_L_isUndone E) = t_fun (f2_X9_ofLot E) 0 0 68 3 := funext fun _ => rfl
theorem lo_L_isUndone_68 (E : kx_E) : kx_look 68 (cd_L_isUndone E) = t_push 69 (.int 0) := funext fun _ => rfl
theorem lo_L_isUndone_69 (E : kx_E) : kx_look 69 (cd_L_isUndone E) = t_fun (f2_X9_ofGrower E) 0 0 72 3 := funext fun _ => rfl
theorem lo_L_isUndone_72 (E : kx_E) : kx_look 72 (cd_L_isUndone E) = t_is 74 7 := funext fun _ => rfl
theorem lo_L_isUndone_74 (E : kx_E) : kx_look 74 (cd_L_isUndone E) = t_al 75 0 := funext fun _ => rfl
theorem lo_L_isUndone_75 (E : kx_E) : kx_look 75 (cd_L_isUndone E) = t_il 76 1 := funext fun _ => rfl
theorem lo_L_isUndone_76 (E : kx_E) : kx_look 76 (cd_L_isUndone E) = t_il 77 2 := funext fun _ => rfl
theorem lo_L_isUndone_77 (E : kx_E) : kx_look 77 (cd_L_isUndone E) = t_il 78 3 := funext fun _ => rfl
theorem lo_L_isUndone_78 (E : kx_E) : kx_look 78 (cd_L_isUndone E) = t_il 80 4 := funext fun _ => rfl
theorem lo_L_isUndone_80 (E : kx_E) : kx_look 80 (cd_L_isUndone E) = t_call (c2t_X9_presell E) 83 5 11 := funext fun _ => rfl
theorem lo_L_isUndone_83 (E : kx_E) : kx_look 83 (cd_L_isUndone E) = t_is 85 8 := funext fun _ => rfl
theorem lo_L_isUndone_85 (E : kx_E) : kx_look 85 (cd_L_isUndone E) = t_il 87 8 := funext fun _ => rfl
theorem lo_L_isUndone_87 (E : kx_E) : kx_look 87 (cd_L_isUndone E) = t_il 88 3 := funext fun _ => rfl
theorem lo_L_isUndone_88 (E : kx_E) : kx_look 88 (cd_L_isUndone E) = t_il 90 4 := funext fun _ => rfl
theorem lo_L_isUndone_90 (E : kx_E) : kx_look 90 (cd_L_isUndone E) = t_bin 91 (fun x y => x * y) := funext fun _ => rfl
theorem lo_L_isUndone_91 (E : kx_E) : kx_look 91 (cd_L_isUndone E) = t_il 92 3 := funext fun _ => rfl
theorem lo_L_isUndone_92 (E : kx_E) : kx_look 92 (cd_L_isUndone E) = t_il 94 4 := funext fun _ => rfl
theorem lo_L_isUndone_94 (E : kx_E) : kx_look 94 (cd_L_isUndone E) = t_bin 95 (fun x y => x * y) := funext fun _ => rfl
theorem lo_L_isUndone_95 (E : kx_E) : kx_look 95 (cd_L_isUndone E) = t_push 97 (.int 20) := funext fun _ => rfl
theorem lo_L_isUndone_97 (E : kx_E) : kx_look 97 (cd_L_isUndone E) = t_dv 98 (fun x y => x / y) := funext fun _ => rfl
theorem lo_L_isUndone_98 (E : kx_E) : kx_look 98 (cd_L_isUndone E) = t_bin 99 (fun x y => x - y) := funext fun _ => rfl
theorem lo_L_isUndone_99 (E : kx_E) : kx_look 99 (cd_L_isUndone E) = t_ic 102 139 (fun x y => x ≠ y) := funext fun _ => rfl
theorem lo_L_isUndone_102 (E : kx_E) : kx_look 102 (cd_L_isUndone E) = t_al 103 0 := funext fun _ => rfl
theorem lo_L_isUndone_103 (E : kx_E) : kx_look 103 (cd_L_isUndone E) = t_al 104 0 := funext fun _ => rfl
theorem lo_L_isUndone_104 (E : kx_E) : kx_look 104 (cd_L_isUndone E) = t_il 105 1 := funext fun _ => rfl
theorem lo_L_isUndone_105 (E : kx_E) : kx_look 105 (cd_L_isUndone E) = t_push 106 (.int 0) := funext fun _ => rfl
theorem lo_L_isUndone_106 (E : kx_E) : kx_look 106 (cd_L_isUndone E) = t_fun (f2_X9_ofLot E) 0 0 109 3 := funext fun _ => rfl
theorem lo_L_isUndone_109 (E : kx_E) : kx_look 109 (cd_L_isUndone E) = t_push 110 (.int 0) := funext fun _ => rfl
theorem lo_L_isUndone_110 (E : kx_E) : kx_look 110 (cd_L_isUndone E) = t_fun (f2_X9_ofGrower E) 0 0 113 3 := funext fun _ => rfl
theorem lo_L_isUndone_113 (E : kx_E) : kx_look 113 (cd_L_isUndone E) = t_il 115 7 := funext fun _ => rfl
theorem lo_L_isUndone_115 (E : kx_E) : kx_look 115 (cd_L_isUndone E) = t_il 117 8 := funext fun _ => rfl
theorem lo_L_isUndone_117 (E : kx_E) : kx_look 117 (cd_L_isUndone E) = t_bin 118 (fun x y => x + y) := funext fun _ => rfl
theorem lo_L_isUndone_118 (E : kx_E) : kx_look 118 (cd_L_isUndone E) = t_ic 121 139 (fun x y => x ≠ y) := funext fun _ => rfl
theorem lo_L_isUndone_121 (E : kx_E) : kx_look 121 (cd_L_isUndone E) = t_al 122 0 := funext fun _ => rfl
theorem lo_L_isUndone_122 (E : kx_E) : kx_look 122 (cd_L_isUndone E) = t_il 123 2 := funext fun _ => rfl
theorem lo_L_isUndone_123 (E : kx_E) : kx_look 123 (cd_L_isUndone E) = t_push 124 (.int 0) := funext fun _ => rfl
theorem lo_L_isUndone_124 (E : kx_E) : kx_look 124 (cd_L_isUndone E) = t_fun (f2_X9_ofBuyer E) 0 0 127 3 := funext fun _ => rfl
theorem lo_L_isUndone_127 (E : kx_E) : kx_look 127 (cd_L_isUndone E) = t_al 129 6 := funext fun _ => rfl
theorem lo_L_isUndone_129 (E : kx_E) : kx_look 129 (cd_L_isUndone E) = t_push 130 (.int 0) := funext fun _ => rfl
theorem lo_L_isUndone_130 (E : kx_E) : kx_look 130 (cd_L_isUndone E) = t_ial 131 := funext fun _ => rfl
theorem lo_L_isUndone_131 (E : kx_E) : kx_look 131 (cd_L_isUndone E) = t_il 132 3 := funext fun _ => rfl
theorem lo_L_isUndone_132 (E : kx_E) : kx_look 132 (cd_L_isUndone E) = t_il 134 4 := funext fun _ => rfl
theorem lo_L_isUndone_134 (E : kx_E) : kx_look 134 (cd_L_isUndone E) = t_bin 135 (fun x y => x * y) := funext fun _ => rfl
theorem lo_L_isUndone_135 (E : kx_E) : kx_look 135 (cd_L_isUndone E) = t_bin 136 (fun x y => x - y) := funext fun _ => rfl
theorem lo_L_isUndone_136 (E : kx_E) : kx_look 136 (cd_L_isUndone E) = t_ic 139 141 (fun x y => x ≤ y) := funext fun _ => rfl
theorem lo_L_isUndone_139 (E : kx_E) : kx_look 139 (cd_L_isUndone E) = t_push 140 (.int 0) := funext fun _ => rfl
theorem lo_L_isUndone_140 (E : kx_E) : kx_look 140 (cd_L_isUndone E) = t_zret := funext fun _ => rfl
theorem lo_L_isUndone_141 (E : kx_E) : kx_look 141 (cd_L_isUndone E) = t_il 143 5 := funext fun _ => rfl
theorem lo_L_isUndone_143 (E : kx_E) : kx_look 143 (cd_L_isUndone E) = t_if 146 182 (fun x => x = 0) := funext fun _ => rfl
theorem lo_L_isUndone_146 (E : kx_E) : kx_look 146 (cd_L_isUndone E) = t_al 147 0 := funext fun _ => rfl
theorem lo_L_isUndone_147 (E : kx_E) : kx_look 147 (cd_L_isUndone E) = t_il 148 1 := funext fun _ => rfl
theorem lo_L_isUndone_148 (E : kx_E) : kx_look 148 (cd_L_isUndone E) = t_push 149 (.int 2) := funext fun _ => rfl
theorem lo_L_isUndone_149 (E : kx_E) : kx_look 149 (cd_L_isUndone E) = t_fun (f2_X9_ofLot E) 0 0 152 3 := funext fun _ => rfl
theorem lo_L_isUndone_152 (E : kx_E) : kx_look 152 (cd_L_isUndone E) = t_al 154 6 := funext fun _ => rfl
theorem lo_L_isUndone_154 (E : kx_E) : kx_look 154 (cd_L_isUndone E) = t_push 155 (.int 2) := funext fun _ => rfl
theorem lo_L_isUndone_155 (E : kx_E) : kx_look 155 (cd_L_isUndone E) = t_ial 156 := funext fun _ => rfl
theorem lo_L_isUndone_156 (E : kx_E) : kx_look 156 (cd_L_isUndone E) = t_il 157 3 := funext fun _ => rfl
theorem lo_L_isUndone_157 (E : kx_E) : kx_look 157 (cd_L_isUndone E) = t_bin 158 (fun x y => x - y) := funext fun _ => rfl
theorem lo_L_isUndone_158 (E : kx_E) : kx_look 158 (cd_L_isUndone E) = t_ic 161 180 (fun x y => x ≠ y) := funext fun _ => rfl
theorem lo_L_isUndone_161 (E : kx_E) : kx_look 161 (cd_L_isUndone E) = t_al 162 0 := funext fun _ => rfl
theorem lo_L_isUndone_162 (E : kx_E) : kx_look 162 (cd_L_isUndone E) = t_push 164 (.int 7) := funext fun _ => rfl
theorem lo_L_isUndone_164 (E : kx_E) : kx_look 164 (cd_L_isUndone E) = t_fun (f2_X9_many E) 0 0 167 2 := funext fun _ => rfl
theorem lo_L_isUndone_167 (E : kx_E) : kx_look 167 (cd_L_isUndone E) = t_al 169 6 := funext fun _ => rfl
theorem lo_L_isUndone_169 (E : kx_E) : kx_look 169 (cd_L_isUndone E) = t_push 170 (.int 5) := funext fun _ => rfl
theorem lo_L_isUndone_170 (E : kx_E) : kx_look 170 (cd_L_isUndone E) = t_ial 171 := funext fun _ => rfl
theorem lo_L_isUndone_171 (E : kx_E) : kx_look 171 (cd_L_isUndone E) = t_push 172 (.int 1) := funext fun _ => rfl
theorem lo_L_isUndone_172 (E : kx_E) : kx_look 172 (cd_L_isUndone E) = t_bin 173 (fun x y => x + y) := funext fun _ => rfl
theorem lo_L_isUndone_173 (E : kx_E) : kx_look 173 (cd_L_isUndone E) = t_ic 176 180 (fun x y => x ≠ y) := funext fun _ => rfl
theorem lo_L_isUndone_176 (E : kx_E) : kx_look 176 (cd_L_isUndone E) = t_push 177 (.int 1) := funext fun _ => rfl
theorem lo_L_isUndone_177 (E : kx_E) : kx_look 177 (cd_L_isUndone E) = t_go 181 := funext fun _ => rfl
theorem lo_L_isUndone_180 (E : kx_E) : kx_look 180 (cd_L_isUndone E) = t_push 181 (.int 0) := funext fun _ => rfl
theorem lo_L_isUndone_181 (E : kx_E) : kx_look 181 (cd_L_isUndone E) = t_zret := funext fun _ => rfl
theorem lo_L_isUndone_182 (E : kx_E) : kx_look 182 (cd_L_isUndone E) = t_push 184 (.int 6) := funext fun _ => rfl
theorem lo_L_isUndone_184 (E : kx_E) : kx_look 184 (cd_L_isUndone E) = t_nwa 186 := funext fun _ => rfl
theorem lo_L_isUndone_186 (E : kx_E) : kx_look 186 (cd_L_isUndone E) = t_dup 187 := funext fun _ => rfl
theorem lo_L_isUndone_187 (E : kx_E) : kx_look 187 (cd_L_isUndone E) = t_push 188 (.int 0) := funext fun _ => rfl
theorem lo_L_isUndone_188 (E : kx_E) : kx_look 188 (cd_L_isUndone E) = t_al 189 0 := funext fun _ => rfl
theorem lo_L_isUndone_189 (E : kx_E) : kx_look 189 (cd_L_isUndone E) = t_call (c2t_X9_undo E) 192 1 11 := funext fun _ => rfl
theorem lo_L_isUndone_192 (E : kx_E) : kx_look 192 (cd_L_isUndone E) = t_il 193 3 := funext fun _ => rfl
theorem lo_L_isUndone_193 (E : kx_E) : kx_look 193 (cd_L_isUndone E) = t_ic 196 205 (fun x y => x ≠ y) := funext fun _ => rfl
theorem lo_L_isUndone_196 (E : kx_E) : kx_look 196 (cd_L_isUndone E) = t_al 197 0 := funext fun _ => rfl
theorem lo_L_isUndone_197 (E : kx_E) : kx_look 197 (cd_L_isUndone E) = t_il 198 2 := funext fun _ => rfl
theorem lo_L_isUndone_198 (E : kx_E) : kx_look 198 (cd_L_isUndone E) = t_push 199 (.int 0) := funext fun _ => rfl
theorem lo_L_isUndone_199 (E : kx_E) : kx_look 199 (cd_L_isUndone E) = t_fun (f2_X9_ofBuyer E) 0 0 202 3 := funext fun _ => rfl
theorem lo_L_isUndone_202 (E : kx_E) : kx_look 202 (cd_L_isUndone E) = t_go 208 := funext fun _ => rfl
theorem lo_L_isUndone_205 (E : kx_E) : kx_look 205 (cd_L_isUndone E) = t_push 208 (.int (-9999)) := funext fun _ => rfl
theorem lo_L_isUndone_208 (E : kx_E) : kx_look 208 (cd_L_isUndone E) = t_ias 209 := funext fun _ => rfl
theorem lo_L_isUndone_209 (E : kx_E) : kx_look 209 (cd_L_isUndone E) = t_dup 210 := funext fun _ => rfl
theorem lo_L_isUndone_210 (E : kx_E) : kx_look 210 (cd_L_isUndone E) = t_push 211 (.int 1) := funext fun _ => rfl
theorem lo_L_isUndone_211 (E : kx_E) : kx_look 211 (cd_L_isUndone E) = t_al 212 0 := funext fun _ => rfl
theorem lo_L_isUndone_212 (E : kx_E) : kx_look 212 (cd_L_isUndone E) = t_il 213 2 := funext fun _ => rfl
theorem lo_L_isUndone_213 (E : kx_E) : kx_look 213 (cd_L_isUndone E) = t_push 215 (.int 7) := funext fun _ => rfl
theorem lo_L_isUndone_215 (E : kx_E) : kx_look 215 (cd_L_isUndone E) = t_fun (f2_X9_ofBuyer E) 0 0 218 3 := funext fun _ => rfl
theorem lo_L_isUndone_218 (E : kx_E) : kx_look 218 (cd_L_isUndone E) = t_ias 219 := funext fun _ => rfl
theorem lo_L_isUndone_219 (E : kx_E) : kx_look 219 (cd_L_isUndone E) = t_dup 220 := funext fun _ => rfl
theorem lo_L_isUndone_220 (E : kx_E) : kx_look 220 (cd_L_isUndone E) = t_push 221 (.int 2) := funext fun _ => rfl
theorem lo_L_isUndone_221 (E : kx_E) : kx_look 221 (cd_L_isUndone E) = t_al 222 0 := funext fun _ => rfl
theorem lo_L_isUndone_222 (E : kx_E) : kx_look 222 (cd_L_isUndone E) = t_il 223 1 := funext fun _ => rfl
theorem lo_L_isUndone_223 (E : kx_E) : kx_look 223 (cd_L_isUndone E) = t_push 224 (.int 2) := funext fun _ => rfl
theorem lo_L_isUndone_224 (E : kx_E) : kx_look 224 (cd_L_isUndone E) = t_fun (f2_X9_ofLot E) 0 0 227 3 := funext fun _ => rfl
theorem lo_L_isUndone_227 (E : kx_E) : kx_look 227 (cd_L_isUndone E) = t_ias 228 := funext fun _ => rfl
theorem lo_L_isUndone_228 (E : kx_E) : kx_look 228 (cd_L_isUndone E) = t_dup 229 := funext fun _ => rfl
theorem lo_L_isUndone_229 (E : kx_E) : kx_look 229 (cd_L_isUndone E) = t_push 230 (.int 3) := funext fun _ => rfl
theorem lo_L_isUndone_230 (E : kx_E) : kx_look 230 (cd_L_isUndone E) = t_al 231 0 := funext fun _ => rfl
theorem lo_L_isUndone_231 (E : kx_E) : kx_look 231 (cd_L_isUndone E) = t_il 232 1 := funext fun _ => rfl
theorem lo_L_isUndone_232 (E : kx_E) : kx_look 232 (cd_L_isUndone E) = t_push 233 (.int 5) := funext fun _ => rfl
theorem lo_L_isUndone_233 (E : kx_E) : kx_look 233 (cd_L_isUndone E) = t_fun (f2_X9_ofLot E) 0 0 236 3 := funext fun _ => rfl
theorem lo_L_isUndone_236 (E : kx_E) : kx_look 236 (cd_L_isUndone E) = t_ias 237 := funext fun _ => rfl
theorem lo_L_isUndone_237 (E : kx_E) : kx_look 237 (cd_L_isUndone E) = t_dup 238 := funext fun _ => rfl
theorem lo_L_isUndone_238 (E : kx_E) : kx_look 238 (cd_L_isUndone E) = t_push 239 (.int 4) := funext fun _ => rfl
theorem lo_L_isUndone_239 (E : kx_E) : kx_look 239 (cd_L_isUndone E) = t_al 240 0 := funext fun _ => rfl
theorem lo_L_isUndone_240 (E : kx_E) : kx_look 240 (cd_L_isUndone E) = t_push 242 (.int 9) := funext fun _ => rfl
theorem lo_L_isUndone_242 (E : kx_E) : kx_look 242 (cd_L_isUndone E) = t_fun (f2_X9_many E) 0 0 245 2 := funext fun _ => rfl
theorem lo_L_isUndone_245 (E : kx_E) : kx_look 245 (cd_L_isUndone E) = t_ias 246 := funext fun _ => rfl
theorem lo_L_isUndone_246 (E : kx_E) : kx_look 246 (cd_L_isUndone E) = t_dup 247 := funext fun _ => rfl
theorem lo_L_isUndone_247 (E : kx_E) : kx_look 247 (cd_L_isUndone E) = t_push 248 (.int 5) := funext fun _ => rfl
theorem lo_L_isUndone_248 (E : kx_E) : kx_look 248 (cd_L_isUndone E) = t_al 249 0 := funext fun _ => rfl
theorem lo_L_isUndone_249 (E : kx_E) : kx_look 249 (cd_L_isUndone E) = t_push 251 (.int 7) := funext fun _ => rfl
theorem lo_L_isUndone_251 (E : kx_E) : kx_look 251 (cd_L_isUndone E) = t_fun (f2_X9_many E) 0 0 254 2 := funext fun _ => rfl
theorem lo_L_isUndone_254 (E : kx_E) : kx_look 254 (cd_L_isUndone E) = t_ias 255 := funext fun _ => rfl
theorem lo_L_isUndone_255 (E : kx_E) : kx_look 255 (cd_L_isUndone E) = t_as 257 9 := funext fun _ => rfl
theorem lo_L_isUndone_257 (E : kx_E) : kx_look 257 (cd_L_isUndone E) = t_push 258 (.int 0) := funext fun _ => rfl
theorem lo_L_isUndone_258 (E : kx_E) : kx_look 258 (cd_L_isUndone E) = t_is 260 10 := funext fun _ => rfl
theorem lo_L_isUndone_260 (E : kx_E) : kx_look 260 (cd_L_isUndone E) = t_il 262 10 := funext fun _ => rfl
theorem lo_L_isUndone_262 (E : kx_E) : kx_look 262 (cd_L_isUndone E) = t_push 264 (.int 6) := funext fun _ => rfl
theorem lo_L_isUndone_264 (E : kx_E) : kx_look 264 (cd_L_isUndone E) = t_ic 267 288 (fun x y => y ≤ x) := funext fun _ => rfl
theorem lo_L_isUndone_267 (E : kx_E) : kx_look 267 (cd_L_isUndone E) = t_al 269 9 := funext fun _ => rfl
theorem lo_L_isUndone_269 (E : kx_E) : kx_look 269 (cd_L_isUndone E) = t_il 271 10 := funext fun _ => rfl
theorem lo_L_isUndone_271 (E : kx_E) : kx_look 271 (cd_L_isUndone E) = t_ial 272 := funext fun _ => rfl
theorem lo_L_isUndone_272 (E : kx_E) : kx_look 272 (cd_L_isUndone E) = t_al 274 6 := funext fun _ => rfl
theorem lo_L_isUndone_274 (E : kx_E) : kx_look 274 (cd_L_isUndone E) = t_il 276 10 := funext fun _ => rfl
theorem lo_L_isUndone_276 (E : kx_E) : kx_look 276 (cd_L_isUndone E) = t_ial 277 := funext fun _ => rfl
theorem lo_L_isUndone_277 (E : kx_E) : kx_look 277 (cd_L_isUndone E) = t_ic 280 282 (fun x y => x = y) := funext fun _ => rfl
theorem lo_L_isUndone_280 (E : kx_E) : kx_look 280 (cd_L_isUndone E) = t_push 281 (.int 0) := funext fun _ => rfl
theorem lo_L_isUndone_281 (E : kx_E) : kx_look 281 (cd_L_isUndone E) = t_zret := funext fun _ => rfl
theorem lo_L_isUndone_282 (E : kx_E) : kx_look 282 (cd_L_isUndone E) = t_inc 285 10 1 := funext fun _ => rfl
theorem lo_L_isUndone_285 (E : kx_E) : kx_look 285 (cd_L_isUndone E) = t_gk 260 11 := funext fun _ => rfl
theorem lo_L_isUndone_288 (E : kx_E) : kx_look 288 (cd_L_isUndone E) = t_al 289 0 := funext fun _ => rfl
theorem lo_L_isUndone_289 (E : kx_E) : kx_look 289 (cd_L_isUndone E) = t_al 290 0 := funext fun _ => rfl
theorem lo_L_isUndone_290 (E : kx_E) : kx_look 290 (cd_L_isUndone E) = t_il 291 1 := funext fun _ => rfl
theorem lo_L_isUndone_291 (E : kx_E) : kx_look 291 (cd_L_isUndone E) = t_push 292 (.int 0) := funext fun _ => rfl
theorem lo_L_isUndone_292 (E : kx_E) : kx_look 292 (cd_L_isUndone E) = t_fun (f2_X9_ofLot E) 0 0 295 3 := funext fun _ => rfl
theorem lo_L_isUndone_295 (E : kx_E) : kx_look 295 (cd_L_isUndone E) = t_push 296 (.int 0) := funext fun _ => rfl
theorem lo_L_isUndone_296 (E : kx_E) : kx_look 296 (cd_L_isUndone E) = t_fun (f2_X9_ofGrower E) 0 0 299 3 := funext fun _ => rfl
theorem lo_L_isUndone_299 (E : kx_E) : kx_look 299 (cd_L_isUndone E) = t_il 301 7 := funext fun _ => rfl
theorem lo_L_isUndone_301 (E : kx_E) : kx_look 301 (cd_L_isUndone E) = t_ic 304 318 (fun x y => x ≠ y) := funext fun _ => rfl
theorem lo_L_isUndone_304 (E : kx_E) : kx_look 304 (cd_L_isUndone E) = t_al 305 0 := funext fun _ => rfl
theorem lo_L_isUndone_305 (E : kx_E) : kx_look 305 (cd_L_isUndone E) = t_il 306 1 := funext fun _ => rfl
theorem lo_L_isUndone_306 (E : kx_E) : kx_look 306 (cd_L_isUndone E) = t_push 308 (.int 7) := funext fun _ => rfl
theorem lo_L_isUndone_308 (E : kx_E) : kx_look 308 (cd_L_isUndone E) = t_fun (f2_X9_ofLot E) 0 0 311 3 := funext fun _ => rfl
theorem lo_L_isUndone_311 (E : kx_E) : kx_look 311 (cd_L_isUndone E) = t_if 314 318 (fun x => x ≠ 0) := funext fun _ => rfl
theorem lo_L_isUndone_314 (E : kx_E) : kx_look 314 (cd_L_isUndone E) = t_push 315 (.int 1) := funext fun _ => rfl
theorem lo_L_isUndone_315 (E : kx_E) : kx_look 315 (cd_L_isUndone E) = t_go 319 := funext fun _ => rfl
theorem lo_L_isUndone_318 (E : kx_E) : kx_look 318 (cd_L_isUndone E) = t_push 319 (.int 0) := funext fun _ => rfl
theorem lo_L_isUndone_319 (E : kx_E) : kx_look 319 (cd_L_isUndone E) = t_zret := funext fun _ => rfl
theorem lo_L_isPassed_0 (E : kx_E) : kx_look 0 (cd_L_isPassed E) = t_al 1 0 := funext fun _ => rfl
theorem lo_L_isPassed_1 (E : kx_E) : kx_look 1 (cd_L_isPassed E) = t_push 2 (.int 1) := funext fun _ => rfl
theorem lo_L_isPassed_2 (E : kx_E) : kx_look 2 (cd_L_isPassed E) = t_il 3 2 := funext fun _ => rfl
theorem lo_L_isPassed_3 (E : kx_E) : kx_look 3 (cd_L_isPassed E) = t_fun (f2_X9_pass E) 0 0 6 3 := funext fun _ => rfl
theorem lo_L_isPassed_6 (E : kx_E) : kx_look 6 (cd_L_isPassed E) = t_if 9 11 (fun x => 0 ≤ x) := funext fun _ => rfl
theorem lo_L_isPassed_9 (E : kx_E) : kx_look 9 (cd_L_isPassed E) = t_push 10 (.int 0) := funext fun _ => rfl
theorem lo_L_isPassed_10 (E : kx_E) : kx_look 10 (cd_L_isPassed E) = t_zret := funext fun _ => rfl
theorem lo_L_isPassed_11 (E : kx_E) : kx_look 11 (cd_L_isPassed E) = t_push 13 (.int 6) := funext fun _ => rfl
theorem lo_L_isPassed_13 (E : kx_E) : kx_look 13 (cd_L_isPassed E) = t_nwa 15 := funext fun _ => rfl
theorem lo_L_isPassed_15 (E : kx_E) : kx_look 15 (cd_L_isPassed E) = t_as 16 3 := funext fun _ => rfl
theorem lo_L_isPassed_16 (E : kx_E) : kx_look 16 (cd_L_isPassed E) = t_push 17 (.int 0) := funext fun _ => rfl
theorem lo_L_isPassed_17 (E : kx_E) : kx_look 17 (cd_L_isPassed E) = t_is 19 4 := funext fun _ => rfl
theorem lo_L_isPassed_19 (E : kx_E) : kx_look 19 (cd_L_isPassed E) = t_il 21 4 := funext fun _ => rfl
theorem lo_L_isPassed_21 (E : kx_E) : kx_look 21 (cd_L_isPassed E) = t_push 23 (.int 6) := funext fun _ => rfl
theorem lo_L_isPassed_23 (E : kx_E) : kx_look 23 (cd_L_isPassed E) = t_ic 26 42 (fun x y => y ≤ x) := funext fun _ => rfl
theorem lo_L_isPassed_26 (E : kx_E) : kx_look 26 (cd_L_isPassed E) = t_al 27 3 := funext fun _ => rfl
theorem lo_L_isPassed_27 (E : kx_E) : kx_look 27 (cd_L_isPassed E) = t_il 29 4 := funext fun _ => rfl
theorem lo_L_isPassed_29 (E : kx_E) : kx_look 29 (cd_L_isPassed E) = t_al 30 0 := funext fun _ => rfl
theorem lo_L_isPassed_30 (E : kx_E) : kx_look 30 (cd_L_isPassed E) = t_il 32 4 := funext fun _ => rfl
theorem lo_L_isPassed_32 (E : kx_E) : kx_look 32 (cd_L_isPassed E) = t_fun (f2_X9_readyIn E) 0 0 35 2 := funext fun _ => rfl
theorem lo_L_isPassed_35 (E : kx_E) : kx_look 35 (cd_L_isPassed E) = t_ias 36 := funext fun _ => rfl
theorem lo_L_isPassed_36 (E : kx_E) : kx_look 36 (cd_L_isPassed E) = t_inc 39 4 1 := funext fun _ => rfl
theorem lo_L_isPassed_39 (E : kx_E) : kx_look 39 (cd_L_isPassed E) = t_gk 19 5 := funext fun _ => rfl
theorem lo_L_isPassed_42 (E : kx_E) : kx_look 42 (cd_L_isPassed E) = t_il 43 1 := funext fun _ => rfl
theorem lo_L_isPassed_43 (E : kx_E) : kx_look 43 (cd_L_isPassed E) = t_push 44 (.int 1) := funext fun _ => rfl
theorem lo_L_isPassed_44 (E : kx_E) : kx_look 44 (cd_L_isPassed E) = t_ic 47 60 (fun x y => x ≤ y) := funext fun _ => rfl
theorem lo_L_isPassed_47 (E : kx_E) : kx_look 47 (cd_L_isPassed E) = t_al 48 0 := funext fun _ => rfl
theorem lo_L_isPassed_48 (E : kx_E) : kx_look 48 (cd_L_isPassed E) = t_il 49 1 := funext fun _ => rfl
theorem lo_L_isPassed_49 (E : kx_E) : kx_look 49 (cd_L_isPassed E) = t_push 50 (.int 1) := funext fun _ => rfl
theorem lo_L_isPassed_50 (E : kx_E) : kx_look 50 (cd_L_isPassed E) = t_bin 51 (fun x y => x - y) := funext fun _ => rfl
theorem lo_L_isPassed_51 (E : kx_E) : kx_look 51 (cd_L_isPassed E) = t_il 52 2 := funext fun _ => rfl
theorem lo_L_isPassed_52 (E : kx_E) : kx_look 52 (cd_L_isPassed E) = t_fun (f2_X9_pass E) 0 0 55 3 := funext fun _ => rfl
theorem lo_L_isPassed_55 (E : kx_E) : kx_look 55 (cd_L_isPassed E) = t_if 58 60 (fun x => 0 ≤ x) := funext fun _ => rfl
theorem lo_L_isPassed_58 (E : kx_E) : kx_look 58 (cd_L_isPassed E) = t_push 59 (.int 0) := funext fun _ => rfl
theorem lo_L_isPassed_59 (E : kx_E) : kx_look 59 (cd_L_isPassed E) = t_zret := funext fun _ => rfl
theorem lo_L_isPassed_60 (E : kx_E) : kx_look 60 (cd_L_isPassed E) = t_push 61 (.int 0) := funext fun _ => rfl
theorem lo_L_isPassed_61 (E : kx_E) : kx_look 61 (cd_L_isPassed E) = t_is 63 4 := funext fun _ => rfl
theorem lo_L_isPassed_63 (E : kx_E) : kx_look 63 (cd_L_isPassed E) = t_il 65 4 := funext fun _ => rfl
theorem lo_L_isPassed_65 (E : kx_E) : kx_look 65 (cd_L_isPassed E) = t_push 67 (.int 6) := funext fun _ => rfl
theorem lo_L_isPassed_67 (E : kx_E) : kx_look 67 (cd_L_isPassed E) = t_ic 70 143 (fun x y => y ≤ x) := funext fun _ => rfl
theorem lo_L_isPassed_70 (E : kx_E) : kx_look 70 (cd_L_isPassed E) = t_al 71 0 := funext fun _ => rfl
theorem lo_L_isPassed_71 (E : kx_E) : kx_look 71 (cd_L_isPassed E) = t_il 73 4 := funext fun _ => rfl
theorem lo_L_isPassed_73 (E : kx_E) : kx_look 73 (cd_L_isPassed E) = t_fun (f2_X9_readyIn E) 0 0 76 2 := funext fun _ => rfl
theorem lo_L_isPassed_76 (E : kx_E) : kx_look 76 (cd_L_isPassed E) = t_al 77 3 := funext fun _ => rfl
theorem lo_L_isPassed_77 (E : kx_E) : kx_look 77 (cd_L_isPassed E) = t_il 79 4 := funext fun _ => rfl
theorem lo_L_isPassed_79 (E : kx_E) : kx_look 79 (cd_L_isPassed E) = t_ial 80 := funext fun _ => rfl
theorem lo_L_isPassed_80 (E : kx_E) : kx_look 80 (cd_L_isPassed E) = t_if 83 87 (fun x => 0 ≤ x) := funext fun _ => rfl
theorem lo_L_isPassed_83 (E : kx_E) : kx_look 83 (cd_L_isPassed E) = t_push 84 (.int (-1)) := funext fun _ => rfl
theorem lo_L_isPassed_84 (E : kx_E) : kx_look 84 (cd_L_isPassed E) = t_go 99 := funext fun _ => rfl
theorem lo_L_isPassed_87 (E : kx_E) : kx_look 87 (cd_L_isPassed E) = t_push 88 (.int 0) := funext fun _ => rfl
theorem lo_L_isPassed_88 (E : kx_E) : kx_look 88 (cd_L_isPassed E) = t_al 89 3 := funext fun _ => rfl
theorem lo_L_isPassed_89 (E : kx_E) : kx_look 89 (cd_L_isPassed E) = t_il 91 4 := funext fun _ => rfl
theorem lo_L_isPassed_91 (E : kx_E) : kx_look 91 (cd_L_isPassed E) = t_ial 92 := funext fun _ => rfl
theorem lo_L_isPassed_92 (E : kx_E) : kx_look 92 (cd_L_isPassed E) = t_il 93 1 := funext fun _ => rfl
theorem lo_L_isPassed_93 (E : kx_E) : kx_look 93 (cd_L_isPassed E) = t_bin 94 (fun x y => x - y) := funext fun _ => rfl
theorem lo_L_isPassed_94 (E : kx_E) : kx_look 94 (cd_L_isPassed E) = t_push 95 (.int 1) := funext fun _ => rfl
theorem lo_L_isPassed_95 (E : kx_E) : kx_look 95 (cd_L_isPassed E) = t_bin 96 (fun x y => x + y) := funext fun _ => rfl
theorem lo_L_isPassed_96 (E : kx_E) : kx_look 96 (cd_L_isPassed E) = t_mm 99 (fun x y => if x < y then y else x) := funext fun _ => rfl
theorem lo_L_isPassed_99 (E : kx_E) : kx_look 99 (cd_L_isPassed E) = t_ic 102 135 (fun x y => x ≠ y) := funext fun _ => rfl
theorem lo_L_isPassed_102 (E : kx_E) : kx_look 102 (cd_L_isPassed E) = t_al 103 0 := funext fun _ => rfl
theorem lo_L_isPassed_103 (E : kx_E) : kx_look 103 (cd_L_isPassed E) = t_il 105 4 := funext fun _ => rfl
theorem lo_L_isPassed_105 (E : kx_E) : kx_look 105 (cd_L_isPassed E) = t_fun (f2_X9_readyIn E) 0 0 108 2 := funext fun _ => rfl
theorem lo_L_isPassed_108 (E : kx_E) : kx_look 108 (cd_L_isPassed E) = t_if 111 115 (fun x => x ≠ 0) := funext fun _ => rfl
theorem lo_L_isPassed_111 (E : kx_E) : kx_look 111 (cd_L_isPassed E) = t_push 112 (.int 1) := funext fun _ => rfl
theorem lo_L_isPassed_112 (E : kx_E) : kx_look 112 (cd_L_isPassed E) = t_go 116 := funext fun _ => rfl
theorem lo_L_isPassed_115 (E : kx_E) : kx_look 115 (cd_L_isPassed E) = t_push 116 (.int 0) := funext fun _ => rfl
theorem lo_L_isPassed_116 (E : kx_E) : kx_look 116 (cd_L_isPassed E) = t_al 117 0 := funext fun _ => rfl
theorem lo_L_isPassed_117 (E : kx_E) : kx_look 117 (cd_L_isPassed E) = t_il 119 4 := funext fun _ => rfl
theorem lo_L_isPassed_119 (E : kx_E) : kx_look 119 (cd_L_isPassed E) = t_push 120 (.int 4) := funext fun _ => rfl
theorem lo_L_isPassed_120 (E : kx_E) : kx_look 120 (cd_L_isPassed E) = t_fun (f2_X9_ofCrop E) 0 0 123 3 := funext fun _ => rfl
theorem lo_L_isPassed_123 (E : kx_E) : kx_look 123 (cd_L_isPassed E) = t_push 124 (.int 1) := funext fun _ => rfl
theorem lo_L_isPassed_124 (E : kx_E) : kx_look 124 (cd_L_isPassed E) = t_ic 127 131 (fun x y => x ≠ y) := funext fun _ => rfl
theorem lo_L_isPassed_127 (E : kx_E) : kx_look 127 (cd_L_isPassed E) = t_push 128 (.int 1) := funext fun _ => rfl
theorem lo_L_isPassed_128 (E : kx_E) : kx_look 128 (cd_L_isPassed E) = t_go 132 := funext fun _ => rfl
theorem lo_L_isPassed_131 (E : kx_E) : kx_look 131 (cd_L_isPassed E) = t_push 132 (.int 0) := funext fun _ => rfl
theorem lo_L_isPassed_132 (E : kx_E) : kx_look 132 (cd_L_isPassed E) = t_ic 135 137 (fun x y => x = y) := funext fun _ => rfl
theorem lo_L_isPassed_135 (E : kx_E) : kx_look 135 (cd_L_isPassed E) = t_push 136 (.int 0) := funext fun _ => rfl
theorem lo_L_isPassed_136 (E : kx_E) : kx_look 136 (cd_L_isPassed E) = t_zret := funext fun _ => rfl
theorem lo_L_isPassed_137 (E : kx_E) : kx_look 137 (cd_L_isPassed E) = t_inc 140 4 1 := funext fun _ => rfl
theorem lo_L_isPassed_140 (E : kx_E) : kx_look 140 (cd_L_isPassed E) = t_gk 63 5 := funext fun _ => rfl
theorem lo_L_isPassed_143 (E : kx_E) : kx_look 143 (cd_L_isPassed E) = t_push 144 (.int 1) := funext fun _ => rfl
theorem lo_L_isPassed_144 (E : kx_E) : kx_look 144 (cd_L_isPassed E) = t_zret := funext fun _ => rfl
theorem lo_L_isSound_0 (E : kx_E) : kx_look 0 (cd_L_isSound E) = t_il 1 2 := funext fun _ => rfl
theorem lo_L_isSound_1 (E : kx_E) : kx_look 1 (cd_L_isSound E) = t_al 2 0 := funext fun _ => rfl
theorem lo_L_isSound_2 (E : kx_E) : kx_look 2 (cd_L_isSound E) = t_push 4 (.int 10) := funext fun _ => rfl
theorem lo_L_isSound_4 (E : kx_E) : kx_look 4 (cd_L_isSound E) = t_fun (f2_X9_many E) 0 0 7 2 := funext fun _ => rfl
theorem lo_L_isSound_7 (E : kx_E) : kx_look 7 (cd_L_isSound E) = t_bin 8 (fun x y => x + y) := funext fun _ => rfl
theorem lo_L_isSound_8 (E : kx_E) : kx_look 8 (cd_L_isSound E) = t_is 10 4 := funext fun _ => rfl
theorem lo_L_isSound_10 (E : kx_E) : kx_look 10 (cd_L_isSound E) = t_al 11 0 := funext fun _ => rfl
theorem lo_L_isSound_11 (E : kx_E) : kx_look 11 (cd_L_isSound E) = t_push 13 (.int 8) := funext fun _ => rfl
theorem lo_L_isSound_13 (E : kx_E) : kx_look 13 (cd_L_isSound E) = t_fun (f2_X9_many E) 0 0 16 2 := funext fun _ => rfl
theorem lo_L_isSound_16 (E : kx_E) : kx_look 16 (cd_L_isSound E) = t_is 18 5 := funext fun _ => rfl
theorem lo_L_isSound_18 (E : kx_E) : kx_look 18 (cd_L_isSound E) = t_al 19 0 := funext fun _ => rfl
theorem lo_L_isSound_19 (E : kx_E) : kx_look 19 (cd_L_isSound E) = t_push 21 (.int 9) := funext fun _ => rfl
theorem lo_L_isSound_21 (E : kx_E) : kx_look 21 (cd_L_isSound E) = t_fun (f2_X9_many E) 0 0 24 2 := funext fun _ => rfl
theorem lo_L_isSound_24 (E : kx_E) : kx_look 24 (cd_L_isSound E) = t_is 26 6 := funext fun _ => rfl
theorem lo_L_isSound_26 (E : kx_E) : kx_look 26 (cd_L_isSound E) = t_push 27 (.int 0) := funext fun _ => rfl
theorem lo_L_isSound_27 (E : kx_E) : kx_look 27 (cd_L_isSound E) = t_is 29 7 := funext fun _ => rfl
theorem lo_L_isSound_29 (E : kx_E) : kx_look 29 (cd_L_isSound E) = t_push 30 (.int 0) := funext fun _ => rfl
theorem lo_L_isSound_30 (E : kx_E) : kx_look 30 (cd_L_isSound E) = t_is 32 8 := funext fun _ => rfl
theorem lo_L_isSound_32 (E : kx_E) : kx_look 32 (cd_L_isSound E) = t_il 34 8 := funext fun _ => rfl
theorem lo_L_isSound_34 (E : kx_E) : kx_look 34 (cd_L_isSound E) = t_al 35 0 := funext fun _ => rfl
theorem lo_L_isSound_35 (E : kx_E) : kx_look 35 (cd_L_isSound E) = t_push 36 (.int 3) := funext fun _ => rfl
theorem lo_L_isSound_36 (E : kx_E) : kx_look 36 (cd_L_isSound E) = t_fun (f2_X9_many E) 0 0 39 2 := funext fun _ => rfl
theorem lo_L_isSound_39 (E : kx_E) : kx_look 39 (cd_L_isSound E) = t_ic 42 170 (fun x y => y ≤ x) := funext fun _ => rfl
theorem lo_L_isSound_42 (E : kx_E) : kx_look 42 (cd_L_isSound E) = t_il 44 4 := funext fun _ => rfl
theorem lo_L_isSound_44 (E : kx_E) : kx_look 44 (cd_L_isSound E) = t_al 45 0 := funext fun _ => rfl
theorem lo_L_isSound_45 (E : kx_E) : kx_look 45 (cd_L_isSound E) = t_il 47 8 := funext fun _ => rfl
theorem lo_L_isSound_47 (E : kx_E) : kx_look 47 (cd_L_isSound E) = t_push 48 (.int 2) := funext fun _ => rfl
theorem lo_L_isSound_48 (E : kx_E) : kx_look 48 (cd_L_isSound E) = t_fun (f2_X9_ofLot E) 0 0 51 3 := funext fun _ => rfl
theorem lo_L_isSound_51 (E : kx_E) : kx_look 51 (cd_L_isSound E) = t_bin 52 (fun x y => x + y) := funext fun _ => rfl
theorem lo_L_isSound_52 (E : kx_E) : kx_look 52 (cd_L_isSound E) = t_is 54 4 := funext fun _ => rfl
theorem lo_L_isSound_54 (E : kx_E) : kx_look 54 (cd_L_isSound E) = t_il 56 5 := funext fun _ => rfl
theorem lo_L_isSound_56 (E : kx_E) : kx_look 56 (cd_L_isSound E) = t_al 57 0 := funext fun _ => rfl
theorem lo_L_isSound_57 (E : kx_E) : kx_look 57 (cd_L_isSound E) = t_il 59 8 := funext fun _ => rfl
theorem lo_L_isSound_59 (E : kx_E) : kx_look 59 (cd_L_isSound E) = t_push 60 (.int 5) := funext fun _ => rfl
theorem lo_L_isSound_60 (E : kx_E) : kx_look 60 (cd_L_isSound E) = t_fun (f2_X9_ofLot E) 0 0 63 3 := funext fun _ => rfl
theorem lo_L_isSound_63 (E : kx_E) : kx_look 63 (cd_L_isSound E) = t_bin 64 (fun x y => x + y) := funext fun _ => rfl
theorem lo_L_isSound_64 (E : kx_E) : kx_look 64 (cd_L_isSound E) = t_is 66 5 := funext fun _ => rfl
theorem lo_L_isSound_66 (E : kx_E) : kx_look 66 (cd_L_isSound E) = t_il 68 7 := funext fun _ => rfl
theorem lo_L_isSound_68 (E : kx_E) : kx_look 68 (cd_L_isSound E) = t_al 69 0 := funext fun _ => rfl
theorem lo_L_isSound_69 (E : kx_E) : kx_look 69 (cd_L_isSound E) = t_il 71 8 := funext fun _ => rfl
theorem lo_L_isSound_71 (E : kx_E) : kx_look 71 (cd_L_isSound E) = t_push 73 (.int 7) := funext fun _ => rfl
theorem lo_L_isSound_73 (E : kx_E) : kx_look 73 (cd_L_isSound E) = t_fun (f2_X9_ofLot E) 0 0 76 3 := funext fun _ => rfl
theorem lo_L_isSound_76 (E : kx_E) : kx_look 76 (cd_L_isSound E) = t_push 77 (.int 1) := funext fun _ => rfl
theorem lo_L_isSound_77 (E : kx_E) : kx_look 77 (cd_L_isSound E) = t_ic 80 84 (fun x y => x ≠ y) := funext fun _ => rfl
theorem lo_L_isSound_80 (E : kx_E) : kx_look 80 (cd_L_isSound E) = t_push 81 (.int 1) := funext fun _ => rfl
theorem lo_L_isSound_81 (E : kx_E) : kx_look 81 (cd_L_isSound E) = t_go 85 := funext fun _ => rfl
theorem lo_L_isSound_84 (E : kx_E) : kx_look 84 (cd_L_isSound E) = t_push 85 (.int 0) := funext fun _ => rfl
theorem lo_L_isSound_85 (E : kx_E) : kx_look 85 (cd_L_isSound E) = t_bin 86 (fun x y => x + y) := funext fun _ => rfl
theorem lo_L_isSound_86 (E : kx_E) : kx_look 86 (cd_L_isSound E) = t_is 88 7 := funext fun _ => rfl
theorem lo_L_isSound_88 (E : kx_E) : kx_look 88 (cd_L_isSound E) = t_al 89 0 := funext fun _ => rfl
theorem lo_L_isSound_89 (E : kx_E) : kx_look 89 (cd_L_isSound E) = t_il 91 8 := funext fun _ => rfl
theorem lo_L_isSound_91 (E : kx_E) : kx_look 91 (cd_L_isSound E) = t_push 92 (.int 4) := funext fun _ => rfl
theorem lo_L_isSound_92 (E : kx_E) : kx_look 92 (cd_L_isSound E) = t_fun (f2_X9_ofLot E) 0 0 95 3 := funext fun _ => rfl
theorem lo_L_isSound_95 (E : kx_E) : kx_look 95 (cd_L_isSound E) = t_if 98 162 (fun x => x < 0) := funext fun _ => rfl
theorem lo_L_isSound_98 (E : kx_E) : kx_look 98 (cd_L_isSound E) = t_al 99 0 := funext fun _ => rfl
theorem lo_L_isSound_99 (E : kx_E) : kx_look 99 (cd_L_isSound E) = t_il 101 8 := funext fun _ => rfl
theorem lo_L_isSound_101 (E : kx_E) : kx_look 101 (cd_L_isSound E) = t_push 102 (.int 4) := funext fun _ => rfl
theorem lo_L_isSound_102 (E : kx_E) : kx_look 102 (cd_L_isSound E) = t_fun (f2_X9_ofLot E) 0 0 105 3 := funext fun _ => rfl
theorem lo_L_isSound_105 (E : kx_E) : kx_look 105 (cd_L_isSound E) = t_push 107 (.int 110) := funext fun _ => rfl
theorem lo_L_isSound_107 (E : kx_E) : kx_look 107 (cd_L_isSound E) = t_ic 110 162 (fun x y => y < x) := funext fun _ => rfl
theorem lo_L_isSound_110 (E : kx_E) : kx_look 110 (cd_L_isSound E) = t_al 111 0 := funext fun _ => rfl
theorem lo_L_isSound_111 (E : kx_E) : kx_look 111 (cd_L_isSound E) = t_il 113 8 := funext fun _ => rfl
theorem lo_L_isSound_113 (E : kx_E) : kx_look 113 (cd_L_isSound E) = t_push 115 (.int 7) := funext fun _ => rfl
theorem lo_L_isSound_115 (E : kx_E) : kx_look 115 (cd_L_isSound E) = t_fun (f2_X9_ofLot E) 0 0 118 3 := funext fun _ => rfl
theorem lo_L_isSound_118 (E : kx_E) : kx_look 118 (cd_L_isSound E) = t_push 119 (.int 1) := funext fun _ => rfl
theorem lo_L_isSound_119 (E : kx_E) : kx_look 119 (cd_L_isSound E) = t_ic 122 140 (fun x y => x ≤ y) := funext fun _ => rfl
theorem lo_L_isSound_122 (E : kx_E) : kx_look 122 (cd_L_isSound E) = t_al 123 0 := funext fun _ => rfl
theorem lo_L_isSound_123 (E : kx_E) : kx_look 123 (cd_L_isSound E) = t_il 125 8 := funext fun _ => rfl
theorem lo_L_isSound_125 (E : kx_E) : kx_look 125 (cd_L_isSound E) = t_push 126 (.int 2) := funext fun _ => rfl
theorem lo_L_isSound_126 (E : kx_E) : kx_look 126 (cd_L_isSound E) = t_fun (f2_X9_ofLot E) 0 0 129 3 := funext fun _ => rfl
theorem lo_L_isSound_129 (E : kx_E) : kx_look 129 (cd_L_isSound E) = t_al 130 0 := funext fun _ => rfl
theorem lo_L_isSound_130 (E : kx_E) : kx_look 130 (cd_L_isSound E) = t_il 132 8 := funext fun _ => rfl
theorem lo_L_isSound_132 (E : kx_E) : kx_look 132 (cd_L_isSound E) = t_push 133 (.int 5) := funext fun _ => rfl
theorem lo_L_isSound_133 (E : kx_E) : kx_look 133 (cd_L_isSound E) = t_fun (f2_X9_ofLot E) 0 0 136 3 := funext fun _ => rfl
theorem lo_L_isSound_136 (E : kx_E) : kx_look 136 (cd_L_isSound E) = t_bin 137 (fun x y => x + y) := funext fun _ => rfl
theorem lo_L_isSound_137 (E : kx_E) : kx_look 137 (cd_L_isSound E) = t_if 140 162 (fun x => 0 < x) := funext fun _ => rfl
theorem lo_L_isSound_140 (E : kx_E) : kx_look 140 (cd_L_isSound E) = t_al 141 0 := funext fun _ => rfl
theorem lo_L_isSound_141 (E : kx_E) : kx_look 141 (cd_L_isSound E) = t_il 143 8 := funext fun _ => rfl
theorem lo_L_isSound_143 (E : kx_E) : kx_look 143 (cd_L_isSound E) = t_push 145 (.int 7) := funext fun _ => rfl
theorem lo_L_isSound_145 (E : kx_E) : kx_look 145 (cd_L_isSound E) = t_fun (f2_X9_ofLot E) 0 0 148 3 := funext fun _ => rfl
theorem lo_L_isSound_148 (E : kx_E) : kx_look 148 (cd_L_isSound E) = t_push 149 (.int 2) := funext fun _ => rfl
theorem lo_L_isSound_149 (E : kx_E) : kx_look 149 (cd_L_isSound E) = t_ic 152 164 (fun x y => y ≤ x) := funext fun _ => rfl
theorem lo_L_isSound_152 (E : kx_E) : kx_look 152 (cd_L_isSound E) = t_al 153 0 := funext fun _ => rfl
theorem lo_L_isSound_153 (E : kx_E) : kx_look 153 (cd_L_isSound E) = t_il 155 8 := funext fun _ => rfl
theorem lo_L_isSound_155 (E : kx_E) : kx_look 155 (cd_L_isSound E) = t_push 156 (.int 2) := funext fun _ => rfl
theorem lo_L_isSound_156 (E : kx_E) : kx_look 156 (cd_L_isSound E) = t_fun (f2_X9_ofLot E) 0 0 159 3 := funext fun _ => rfl
theorem lo_L_isSound_159 (E : kx_E) : kx_look 159 (cd_L_isSound E) = t_if 162 164 (fun x => x ≠ 0) := funext fun _ => rfl
theorem lo_L_isSound_162 (E : kx_E) : kx_look 162 (cd_L_isSound E) = t_push 163 (.int 0) := funext fun _ => rfl
theorem lo_L_isSound_163 (E : kx_E) : kx_look 163 (cd_L_isSound E) = t_zret := funext fun _ => rfl
theorem lo_L_isSound_164 (E : kx_E) : kx_look 164 (cd_L_isSound E) = t_inc 167 8 1 := funext fun _ => rfl
theorem lo_L_isSound_167 (E : kx_E) : kx_look 167 (cd_L_isSound E) = t_gk 32 9 := funext fun _ => rfl
theorem lo_L_isSound_170 (E : kx_E) : kx_look 170 (cd_L_isSound E) = t_push 171 (.int 0) := funext fun _ => rfl
theorem lo_L_isSound_171 (E : kx_E) : kx_look 171 (cd_L_isSound E) = t_is 173 8 := funext fun _ => rfl
theorem lo_L_isSound_173 (E : kx_E) : kx_look 173 (cd_L_isSound E) = t_push 174 (.int 0) := funext fun _ => rfl
theorem lo_L_isSound_174 (E : kx_E) : kx_look 174 (cd_L_isSound E) = t_is 176 9 := funext fun _ => rfl
theorem lo_L_isSound_176 (E : kx_E) : kx_look 176 (cd_L_isSound E) = t_il 178 9 := funext fun _ => rfl
theorem lo_L_isSound_178 (E : kx_E) : kx_look 178 (cd_L_isSound E) = t_push 179 (.int 3) := funext fun _ => rfl
theorem lo_L_isSound_179 (E : kx_E) : kx_look 179 (cd_L_isSound E) = t_ic 182 286 (fun x y => y ≤ x) := funext fun _ => rfl
theorem lo_L_isSound_182 (E : kx_E) : kx_look 182 (cd_L_isSound E) = t_il 184 5 := funext fun _ => rfl
theorem lo_L_isSound_184 (E : kx_E) : kx_look 184 (cd_L_isSound E) = t_al 185 0 := funext fun _ => rfl
theorem lo_L_isSound_185 (E : kx_E) : kx_look 185 (cd_L_isSound E) = t_il 187 9 := funext fun _ => rfl
theorem lo_L_isSound_187 (E : kx_E) : kx_look 187 (cd_L_isSound E) = t_push 189 (.int 7) := funext fun _ => rfl
theorem lo_L_isSound_189 (E : kx_E) : kx_look 189 (cd_L_isSound E) = t_fun (f2_X9_ofBuyer E) 0 0 192 3 := funext fun _ => rfl
theorem lo_L_isSound_192 (E : kx_E) : kx_look 192 (cd_L_isSound E) = t_bin 193 (fun x y => x + y) := funext fun _ => rfl
theorem lo_L_isSound_193 (E : kx_E) : kx_look 193 (cd_L_isSound E) = t_is 195 5 := funext fun _ => rfl
theorem lo_L_isSound_195 (E : kx_E) : kx_look 195 (cd_L_isSound E) = t_il 197 6 := funext fun _ => rfl
theorem lo_L_isSound_197 (E : kx_E) : kx_look 197 (cd_L_isSound E) = t_al 198 0 := funext fun _ => rfl
theorem lo_L_isSound_198 (E : kx_E) : kx_look 198 (cd_L_isSound E) = t_il 200 9 := funext fun _ => rfl
theorem lo_L_isSound_200 (E : kx_E) : kx_look 200 (cd_L_isSound E) = t_push 201 (.int 0) := funext fun _ => rfl
theorem lo_L_isSound_201 (E : kx_E) : kx_look 201 (cd_L_isSound E) = t_fun (f2_X9_ofBuyer E) 0 0 204 3 := funext fun _ => rfl
theorem lo_L_isSound_204 (E : kx_E) : kx_look 204 (cd_L_isSound E) = t_al 205 0 := funext fun _ => rfl
theorem lo_L_isSound_205 (E : kx_E) : kx_look 205 (cd_L_isSound E) = t_il 207 9 := funext fun _ => rfl
theorem lo_L_isSound_207 (E : kx_E) : kx_look 207 (cd_L_isSound E) = t_push 208 (.int 0) := funext fun _ => rfl
theorem lo_L_isSound_208 (E : kx_E) : kx_look 208 (cd_L_isSound E) = t_fun (f2_X9_ofGrower E) 0 0 211 3 := funext fun _ => rfl
theorem lo_L_isSound_211 (E : kx_E) : kx_look 211 (cd_L_isSound E) = t_bin 212 (fun x y => x + y) := funext fun _ => rfl
theorem lo_L_isSound_212 (E : kx_E) : kx_look 212 (cd_L_isSound E) = t_bin 213 (fun x y => x + y) := funext fun _ => rfl
theorem lo_L_isSound_213 (E : kx_E) : kx_look 213 (cd_L_isSound E) = t_is 215 6 := funext fun _ => rfl
theorem lo_L_isSound_215 (E : kx_E) : kx_look 215 (cd_L_isSound E) = t_il 217 8 := funext fun _ => rfl
theorem lo_L_isSound_217 (E : kx_E) : kx_look 217 (cd_L_isSound E) = t_al 218 0 := funext fun _ => rfl
theorem lo_L_isSound_218 (E : kx_E) : kx_look 218 (cd_L_isSound E) = t_il 220 9 := funext fun _ => rfl
theorem lo_L_isSound_220 (E : kx_E) : kx_look 220 (cd_L_isSound E) = t_push 221 (.int 3) := funext fun _ => rfl
theorem lo_L_isSound_221 (E : kx_E) : kx_look 221 (cd_L_isSound E) = t_fun (f2_X9_ofGrower E) 0 0 224 3 := funext fun _ => rfl
theorem lo_L_isSound_224 (E : kx_E) : kx_look 224 (cd_L_isSound E) = t_bin 225 (fun x y => x + y) := funext fun _ => rfl
theorem lo_L_isSound_225 (E : kx_E) : kx_look 225 (cd_L_isSound E) = t_is 227 8 := funext fun _ => rfl
theorem lo_L_isSound_227 (E : kx_E) : kx_look 227 (cd_L_isSound E) = t_push 228 (.int 4) := funext fun _ => rfl
theorem lo_L_isSound_228 (E : kx_E) : kx_look 228 (cd_L_isSound E) = t_is 230 10 := funext fun _ => rfl
theorem lo_L_isSound_230 (E : kx_E) : kx_look 230 (cd_L_isSound E) = t_il 232 10 := funext fun _ => rfl
theorem lo_L_isSound_232 (E : kx_E) : kx_look 232 (cd_L_isSound E) = t_push 234 (.int 7) := funext fun _ => rfl
theorem lo_L_isSound_234 (E : kx_E) : kx_look 234 (cd_L_isSound E) = t_ic 237 256 (fun x y => y ≤ x) := funext fun _ => rfl
theorem lo_L_isSound_237 (E : kx_E) : kx_look 237 (cd_L_isSound E) = t_il 239 4 := funext fun _ => rfl
theorem lo_L_isSound_239 (E : kx_E) : kx_look 239 (cd_L_isSound E) = t_al 240 0 := funext fun _ => rfl
theorem lo_L_isSound_240 (E : kx_E) : kx_look 240 (cd_L_isSound E) = t_il 242 9 := funext fun _ => rfl
theorem lo_L_isSound_242 (E : kx_E) : kx_look 242 (cd_L_isSound E) = t_il 244 10 := funext fun _ => rfl
theorem lo_L_isSound_244 (E : kx_E) : kx_look 244 (cd_L_isSound E) = t_fun (f2_X9_ofBuyer E) 0 0 247 3 := funext fun _ => rfl
theorem lo_L_isSound_247 (E : kx_E) : kx_look 247 (cd_L_isSound E) = t_bin 248 (fun x y => x + y) := funext fun _ => rfl
theorem lo_L_isSound_248 (E : kx_E) : kx_look 248 (cd_L_isSound E) = t_is 250 4 := funext fun _ => rfl
theorem lo_L_isSound_250 (E : kx_E) : kx_look 250 (cd_L_isSound E) = t_inc 253 10 1 := funext fun _ => rfl
theorem lo_L_isSound_253 (E : kx_E) : kx_look 253 (cd_L_isSound E) = t_gk 230 11 := funext fun _ => rfl
theorem lo_L_isSound_256 (E : kx_E) : kx_look 256 (cd_L_isSound E) = t_al 257 0 := funext fun _ => rfl
theorem lo_L_isSound_257 (E : kx_E) : kx_look 257 (cd_L_isSound E) = t_il 259 9 := funext fun _ => rfl
theorem lo_L_isSound_259 (E : kx_E) : kx_look 259 (cd_L_isSound E) = t_push 260 (.int 2) := funext fun _ => rfl
theorem lo_L_isSound_260 (E : kx_E) : kx_look 260 (cd_L_isSound E) = t_fun (f2_X9_ofGrower E) 0 0 263 3 := funext fun _ => rfl
theorem lo_L_isSound_263 (E : kx_E) : kx_look 263 (cd_L_isSound E) = t_if 266 278 (fun x => x < 0) := funext fun _ => rfl
theorem lo_L_isSound_266 (E : kx_E) : kx_look 266 (cd_L_isSound E) = t_al 267 0 := funext fun _ => rfl
theorem lo_L_isSound_267 (E : kx_E) : kx_look 267 (cd_L_isSound E) = t_il 269 9 := funext fun _ => rfl
theorem lo_L_isSound_269 (E : kx_E) : kx_look 269 (cd_L_isSound E) = t_push 270 (.int 2) := funext fun _ => rfl
theorem lo_L_isSound_270 (E : kx_E) : kx_look 270 (cd_L_isSound E) = t_fun (f2_X9_ofGrower E) 0 0 273 3 := funext fun _ => rfl
theorem lo_L_isSound_273 (E : kx_E) : kx_look 273 (cd_L_isSound E) = t_push 275 (.int 100) := funext fun _ => rfl
theorem lo_L_isSound_275 (E : kx_E) : kx_look 275 (cd_L_isSound E) = t_ic 278 280 (fun x y => x ≤ y) := funext fun _ => rfl
theorem lo_L_isSound_278 (E : kx_E) : kx_look 278 (cd_L_isSound E) = t_push 279 (.int 0) := funext fun _ => rfl
theorem lo_L_isSound_279 (E : kx_E) : kx_look 279 (cd_L_isSound E) = t_zret := funext fun _ => rfl
theorem lo_L_isSound_280 (E : kx_E) : kx_look 280 (cd_L_isSound E) = t_inc 283 9 1 := funext fun _ => rfl
theorem lo_L_isSound_283 (E : kx_E) : kx_look 283 (cd_L_isSound E) = t_gk 176 10 := funext fun _ => rfl
theorem lo_L_isSound_286 (E : kx_E) : kx_look 286 (cd_L_isSound E) = t_il 288 4 := funext fun _ => rfl
theorem lo_L_isSound_288 (E : kx_E) : kx_look 288 (cd_L_isSound E) = t_il 289 1 := funext fun _ => rfl
theorem lo_L_isSound_289 (E : kx_E) : kx_look 289 (cd_L_isSound E) = t_ic 292 351 (fun x y => y < x) := funext fun _ => rfl
theorem lo_L_isSound_292 (E : kx_E) : kx_look 292 (cd_L_isSound E) = t_al 293 0 := funext fun _ => rfl
theorem lo_L_isSound_293 (E : kx_E) : kx_look 293 (cd_L_isSound E) = t_push 295 (.int 7) := funext fun _ => rfl
theorem lo_L_isSound_295 (E : kx_E) : kx_look 295 (cd_L_isSound E) = t_fun (f2_X9_many E) 0 0 298 2 := funext fun _ => rfl
theorem lo_L_isSound_298 (E : kx_E) : kx_look 298 (cd_L_isSound E) = t_if 301 305 (fun x => x ≠ 0) := funext fun _ => rfl
theorem lo_L_isSound_301 (E : kx_E) : kx_look 301 (cd_L_isSound E) = t_push 302 (.int 1) := funext fun _ => rfl
theorem lo_L_isSound_302 (E : kx_E) : kx_look 302 (cd_L_isSound E) = t_go 306 := funext fun _ => rfl
theorem lo_L_isSound_305 (E : kx_E) : kx_look 305 (cd_L_isSound E) = t_push 306 (.int 0) := funext fun _ => rfl
theorem lo_L_isSound_306 (E : kx_E) : kx_look 306 (cd_L_isSound E) = t_il 308 4 := funext fun _ => rfl
theorem lo_L_isSound_308 (E : kx_E) : kx_look 308 (cd_L_isSound E) = t_il 309 1 := funext fun _ => rfl
theorem lo_L_isSound_309 (E : kx_E) : kx_look 309 (cd_L_isSound E) = t_ic 312 316 (fun x y => x ≠ y) := funext fun _ => rfl
theorem lo_L_isSound_312 (E : kx_E) : kx_look 312 (cd_L_isSound E) = t_push 313 (.int 1) := funext fun _ => rfl
theorem lo_L_isSound_313 (E : kx_E) : kx_look 313 (cd_L_isSound E) = t_go 317 := funext fun _ => rfl
theorem lo_L_isSound_316 (E : kx_E) : kx_look 316 (cd_L_isSound E) = t_push 317 (.int 0) := funext fun _ => rfl
theorem lo_L_isSound_317 (E : kx_E) : kx_look 317 (cd_L_isSound E) = t_ic 320 351 (fun x y => x ≠ y) := funext fun _ => rfl
theorem lo_L_isSound_320 (E : kx_E) : kx_look 320 (cd_L_isSound E) = t_al 321 0 := funext fun _ => rfl
theorem lo_L_isSound_321 (E : kx_E) : kx_look 321 (cd_L_isSound E) = t_push 323 (.int 15) := funext fun _ => rfl
theorem lo_L_isSound_323 (E : kx_E) : kx_look 323 (cd_L_isSound E) = t_fun (f2_X9_many E) 0 0 326 2 := funext fun _ => rfl
theorem lo_L_isSound_326 (E : kx_E) : kx_look 326 (cd_L_isSound E) = t_if 329 333 (fun x => 0 ≤ x) := funext fun _ => rfl
theorem lo_L_isSound_329 (E : kx_E) : kx_look 329 (cd_L_isSound E) = t_push 330 (.int 1) := funext fun _ => rfl
theorem lo_L_isSound_330 (E : kx_E) : kx_look 330 (cd_L_isSound E) = t_go 334 := funext fun _ => rfl
theorem lo_L_isSound_333 (E : kx_E) : kx_look 333 (cd_L_isSound E) = t_push 334 (.int 0) := funext fun _ => rfl
theorem lo_L_isSound_334 (E : kx_E) : kx_look 334 (cd_L_isSound E) = t_al 335 0 := funext fun _ => rfl
theorem lo_L_isSound_335 (E : kx_E) : kx_look 335 (cd_L_isSound E) = t_push 337 (.int 7) := funext fun _ => rfl
theorem lo_L_isSound_337 (E : kx_E) : kx_look 337 (cd_L_isSound E) = t_fun (f2_X9_many E) 0 0 340 2 := funext fun _ => rfl
theorem lo_L_isSound_340 (E : kx_E) : kx_look 340 (cd_L_isSound E) = t_if 343 347 (fun x => x ≠ 0) := funext fun _ => rfl
theorem lo_L_isSound_343 (E : kx_E) : kx_look 343 (cd_L_isSound E) = t_push 344 (.int 1) := funext fun _ => rfl
theorem lo_L_isSound_344 (E : kx_E) : kx_look 344 (cd_L_isSound E) = t_go 348 := funext fun _ => rfl
theorem lo_L_isSound_347 (E : kx_E) : kx_look 347 (cd_L_isSound E) = t_push 348 (.int 0) := funext fun _ => rfl
theorem lo_L_isSound_348 (E : kx_E) : kx_look 348 (cd_L_isSound E) = t_ic 351 353 (fun x y => x = y) := funext fun _ => rfl
theorem lo_L_isSound_351 (E : kx_E) : kx_look 351 (cd_L_isSound E) = t_push 352 (.int 0) := funext fun _ => rfl
theorem lo_L_isSound_352 (E : kx_E) : kx_look 352 (cd_L_isSound E) = t_zret := funext fun _ => rfl
theorem lo_L_isSound_353 (E : kx_E) : kx_look 353 (cd_L_isSound E) = t_il 355 5 := funext fun _ => rfl
theorem lo_L_isSound_355 (E : kx_E) : kx_look 355 (cd_L_isSound E) = t_push 357 (.int 60) := funext fun _ => rfl
theorem lo_L_isSound_357 (E : kx_E) : kx_look 357 (cd_L_isSound E) = t_ic 360 396 (fun x y => x ≠ y) := funext fun _ => rfl
theorem lo_L_isSound_360 (E : kx_E) : kx_look 360 (cd_L_isSound E) = t_il 362 6 := funext fun _ => rfl
theorem lo_L_isSound_362 (E : kx_E) : kx_look 362 (cd_L_isSound E) = t_push 365 (.int 6300) := funext fun _ => rfl
theorem lo_L_isSound_365 (E : kx_E) : kx_look 365 (cd_L_isSound E) = t_il 366 3 := funext fun _ => rfl
theorem lo_L_isSound_366 (E : kx_E) : kx_look 366 (cd_L_isSound E) = t_bin 367 (fun x y => x - y) := funext fun _ => rfl
theorem lo_L_isSound_367 (E : kx_E) : kx_look 367 (cd_L_isSound E) = t_ic 370 396 (fun x y => x ≠ y) := funext fun _ => rfl
theorem lo_L_isSound_370 (E : kx_E) : kx_look 370 (cd_L_isSound E) = t_il 372 8 := funext fun _ => rfl
theorem lo_L_isSound_372 (E : kx_E) : kx_look 372 (cd_L_isSound E) = t_al 373 0 := funext fun _ => rfl
theorem lo_L_isSound_373 (E : kx_E) : kx_look 373 (cd_L_isSound E) = t_push 375 (.int 11) := funext fun _ => rfl
theorem lo_L_isSound_375 (E : kx_E) : kx_look 375 (cd_L_isSound E) = t_fun (f2_X9_many E) 0 0 378 2 := funext fun _ => rfl
theorem lo_L_isSound_378 (E : kx_E) : kx_look 378 (cd_L_isSound E) = t_ic 381 396 (fun x y => x ≠ y) := funext fun _ => rfl
theorem lo_L_isSound_381 (E : kx_E) : kx_look 381 (cd_L_isSound E) = t_il 383 7 := funext fun _ => rfl
theorem lo_L_isSound_383 (E : kx_E) : kx_look 383 (cd_L_isSound E) = t_al 384 0 := funext fun _ => rfl
theorem lo_L_isSound_384 (E : kx_E) : kx_look 384 (cd_L_isSound E) = t_push 386 (.int 6) := funext fun _ => rfl
theorem lo_L_isSound_386 (E : kx_E) : kx_look 386 (cd_L_isSound E) = t_fun (f2_X9_many E) 0 0 389 2 := funext fun _ => rfl
theorem lo_L_isSound_389 (E : kx_E) : kx_look 389 (cd_L_isSound E) = t_ic 392 396 (fun x y => x ≠ y) := funext fun _ => rfl
theorem lo_L_isSound_392 (E : kx_E) : kx_look 392 (cd_L_isSound E) = t_push 393 (.int 1) := funext fun _ => rfl
theorem lo_L_isSound_393 (E : kx_E) : kx_look 393 (cd_L_isSound E) = t_go 397 := funext fun _ => rfl
theorem lo_L_isSound_396 (E : kx_E) : kx_look 396 (cd_L_isSound E) = t_push 397 (.int 0) := funext fun _ => rfl
theorem lo_L_isSound_397 (E : kx_E) : kx_look 397 (cd_L_isSound E) = t_zret := funext fun _ => rfl
