theorem lo_X9_pass_0 (E : kx_E) : kx_look 0 (cd_X9_pass E) = t_il 1 1 := funext fun _ => rfl
theorem lo_X9_pass_1 (E : kx_E) : kx_look 1 (cd_X9_pass E) = t_push 2 (.int 1) := funext fun _ => rfl
theorem lo_X9_pass_2 (E : kx_E) : kx_look 2 (cd_X9_pass E) = t_push 4 (.int 48) := funext fun _ => rfl
theorem lo_X9_pass_4 (E : kx_E) : kx_look 4 (cd_X9_pass E) = t_fun (f2_X9_isWithin E) 0 0 7 3 := funext fun _ => rfl
theorem lo_X9_pass_7 (E : kx_E) : kx_look 7 (cd_X9_pass E) = t_if 10 20 (fun x => x = 0) := funext fun _ => rfl
theorem lo_X9_pass_10 (E : kx_E) : kx_look 10 (cd_X9_pass E) = t_il 11 2 := funext fun _ => rfl
theorem lo_X9_pass_11 (E : kx_E) : kx_look 11 (cd_X9_pass E) = t_push 12 (.int 0) := funext fun _ => rfl
theorem lo_X9_pass_12 (E : kx_E) : kx_look 12 (cd_X9_pass E) = t_push 14 (.int 9) := funext fun _ => rfl
theorem lo_X9_pass_14 (E : kx_E) : kx_look 14 (cd_X9_pass E) = t_fun (f2_X9_isWithin E) 0 0 17 3 := funext fun _ => rfl
theorem lo_X9_pass_17 (E : kx_E) : kx_look 17 (cd_X9_pass E) = t_if 20 30 (fun x => x ≠ 0) := funext fun _ => rfl
theorem lo_X9_pass_20 (E : kx_E) : kx_look 20 (cd_X9_pass E) = t_no := funext fun _ => rfl
theorem lo_X9_pass_30 (E : kx_E) : kx_look 30 (cd_X9_pass E) = t_al 31 0 := funext fun _ => rfl
theorem lo_X9_pass_31 (E : kx_E) : kx_look 31 (cd_X9_pass E) = t_il 32 2 := funext fun _ => rfl
theorem lo_X9_pass_32 (E : kx_E) : kx_look 32 (cd_X9_pass E) = t_pI 35 11 211 := funext fun _ => rfl
theorem lo_X9_pass_35 (E : kx_E) : kx_look 35 (cd_X9_pass E) = t_push 36 (.int 0) := funext fun _ => rfl
theorem lo_X9_pass_36 (E : kx_E) : kx_look 36 (cd_X9_pass E) = t_is 37 3 := funext fun _ => rfl
theorem lo_X9_pass_37 (E : kx_E) : kx_look 37 (cd_X9_pass E) = t_push 38 (.int 0) := funext fun _ => rfl
theorem lo_X9_pass_38 (E : kx_E) : kx_look 38 (cd_X9_pass E) = t_is 40 4 := funext fun _ => rfl
theorem lo_X9_pass_40 (E : kx_E) : kx_look 40 (cd_X9_pass E) = t_il 42 4 := funext fun _ => rfl
theorem lo_X9_pass_42 (E : kx_E) : kx_look 42 (cd_X9_pass E) = t_il 43 1 := funext fun _ => rfl
theorem lo_X9_pass_43 (E : kx_E) : kx_look 43 (cd_X9_pass E) = t_ic 46 59 (fun x y => y ≤ x) := funext fun _ => rfl
theorem lo_X9_pass_46 (E : kx_E) : kx_look 46 (cd_X9_pass E) = t_il 47 3 := funext fun _ => rfl
theorem lo_X9_pass_47 (E : kx_E) : kx_look 47 (cd_X9_pass E) = t_al 48 0 := funext fun _ => rfl
theorem lo_X9_pass_48 (E : kx_E) : kx_look 48 (cd_X9_pass E) = t_fun (f2_X9_passOneHour E) 0 0 51 1 := funext fun _ => rfl
theorem lo_X9_pass_51 (E : kx_E) : kx_look 51 (cd_X9_pass E) = t_bin 52 (fun x y => x + y) := funext fun _ => rfl
theorem lo_X9_pass_52 (E : kx_E) : kx_look 52 (cd_X9_pass E) = t_is 53 3 := funext fun _ => rfl
theorem lo_X9_pass_53 (E : kx_E) : kx_look 53 (cd_X9_pass E) = t_inc 56 4 1 := funext fun _ => rfl
theorem lo_X9_pass_56 (E : kx_E) : kx_look 56 (cd_X9_pass E) = t_gk 40 5 := funext fun _ => rfl
theorem lo_X9_pass_59 (E : kx_E) : kx_look 59 (cd_X9_pass E) = t_il 60 3 := funext fun _ => rfl
theorem lo_X9_pass_60 (E : kx_E) : kx_look 60 (cd_X9_pass E) = t_iret := funext fun _ => rfl
theorem lo_X9_mixedWithGrowing_0 (E : kx_E) : kx_look 0 (cd_X9_mixedWithGrowing E) = t_ll 1 1 := funext fun _ => rfl
theorem lo_X9_mixedWithGrowing_1 (E : kx_E) : kx_look 1 (cd_X9_mixedWithGrowing E) = t_ls 2 3 := funext fun _ => rfl
theorem lo_X9_mixedWithGrowing_2 (E : kx_E) : kx_look 2 (cd_X9_mixedWithGrowing E) = t_push 3 (.int 0) := funext fun _ => rfl
theorem lo_X9_mixedWithGrowing_3 (E : kx_E) : kx_look 3 (cd_X9_mixedWithGrowing E) = t_is 5 5 := funext fun _ => rfl
theorem lo_X9_mixedWithGrowing_5 (E : kx_E) : kx_look 5 (cd_X9_mixedWithGrowing E) = t_il 7 5 := funext fun _ => rfl
theorem lo_X9_mixedWithGrowing_7 (E : kx_E) : kx_look 7 (cd_X9_mixedWithGrowing E) = t_al 8 0 := funext fun _ => rfl
theorem lo_X9_mixedWithGrowing_8 (E : kx_E) : kx_look 8 (cd_X9_mixedWithGrowing E) = t_gR 11 11 200 := funext fun _ => rfl
theorem lo_X9_mixedWithGrowing_11 (E : kx_E) : kx_look 11 (cd_X9_mixedWithGrowing E) = t_fun (f2_Jx4a65c_size_8abf5 E) 0 0 14 1 := funext fun _ => rfl
theorem lo_X9_mixedWithGrowing_14 (E : kx_E) : kx_look 14 (cd_X9_mixedWithGrowing E) = t_ic 17 61 (fun x y => y ≤ x) := funext fun _ => rfl
theorem lo_X9_mixedWithGrowing_17 (E : kx_E) : kx_look 17 (cd_X9_mixedWithGrowing E) = t_push 18 (.int 0) := funext fun _ => rfl
theorem lo_X9_mixedWithGrowing_18 (E : kx_E) : kx_look 18 (cd_X9_mixedWithGrowing E) = t_is 20 6 := funext fun _ => rfl
theorem lo_X9_mixedWithGrowing_20 (E : kx_E) : kx_look 20 (cd_X9_mixedWithGrowing E) = t_il 22 6 := funext fun _ => rfl
theorem lo_X9_mixedWithGrowing_22 (E : kx_E) : kx_look 22 (cd_X9_mixedWithGrowing E) = t_push 23 (.int 4) := funext fun _ => rfl
theorem lo_X9_mixedWithGrowing_23 (E : kx_E) : kx_look 23 (cd_X9_mixedWithGrowing E) = t_ic 26 55 (fun x y => y < x) := funext fun _ => rfl
theorem lo_X9_mixedWithGrowing_26 (E : kx_E) : kx_look 26 (cd_X9_mixedWithGrowing E) = t_ll 27 3 := funext fun _ => rfl
theorem lo_X9_mixedWithGrowing_27 (E : kx_E) : kx_look 27 (cd_X9_mixedWithGrowing E) = t_al 28 0 := funext fun _ => rfl
theorem lo_X9_mixedWithGrowing_28 (E : kx_E) : kx_look 28 (cd_X9_mixedWithGrowing E) = t_gR 31 11 200 := funext fun _ => rfl
theorem lo_X9_mixedWithGrowing_31 (E : kx_E) : kx_look 31 (cd_X9_mixedWithGrowing E) = t_il 33 5 := funext fun _ => rfl
theorem lo_X9_mixedWithGrowing_33 (E : kx_E) : kx_look 33 (cd_X9_mixedWithGrowing E) = t_fun (f2_Jx4a65c_get_915e3 E) 0 0 36 2 := funext fun _ => rfl
theorem lo_X9_mixedWithGrowing_36 (E : kx_E) : kx_look 36 (cd_X9_mixedWithGrowing E) = t_cst 39 6 := funext fun _ => rfl
theorem lo_X9_mixedWithGrowing_39 (E : kx_E) : kx_look 39 (cd_X9_mixedWithGrowing E) = t_il 41 6 := funext fun _ => rfl
theorem lo_X9_mixedWithGrowing_41 (E : kx_E) : kx_look 41 (cd_X9_mixedWithGrowing E) = t_fun (f2_X4_numberOf E) 0 0 44 2 := funext fun _ => rfl
theorem lo_X9_mixedWithGrowing_44 (E : kx_E) : kx_look 44 (cd_X9_mixedWithGrowing E) = t_itl 45 := funext fun _ => rfl
theorem lo_X9_mixedWithGrowing_45 (E : kx_E) : kx_look 45 (cd_X9_mixedWithGrowing E) = t_fun (f2_X9_mixed E) 0 0 48 2 := funext fun _ => rfl
theorem lo_X9_mixedWithGrowing_48 (E : kx_E) : kx_look 48 (cd_X9_mixedWithGrowing E) = t_ls 49 3 := funext fun _ => rfl
theorem lo_X9_mixedWithGrowing_49 (E : kx_E) : kx_look 49 (cd_X9_mixedWithGrowing E) = t_inc 52 6 1 := funext fun _ => rfl
theorem lo_X9_mixedWithGrowing_52 (E : kx_E) : kx_look 52 (cd_X9_mixedWithGrowing E) = t_gk 20 7 := funext fun _ => rfl
theorem lo_X9_mixedWithGrowing_55 (E : kx_E) : kx_look 55 (cd_X9_mixedWithGrowing E) = t_inc 58 5 1 := funext fun _ => rfl
theorem lo_X9_mixedWithGrowing_58 (E : kx_E) : kx_look 58 (cd_X9_mixedWithGrowing E) = t_gk 5 6 := funext fun _ => rfl
theorem lo_X9_mixedWithGrowing_61 (E : kx_E) : kx_look 61 (cd_X9_mixedWithGrowing E) = t_push 62 (.int 0) := funext fun _ => rfl
theorem lo_X9_mixedWithGrowing_62 (E : kx_E) : kx_look 62 (cd_X9_mixedWithGrowing E) = t_is 64 5 := funext fun _ => rfl
theorem lo_X9_mixedWithGrowing_64 (E : kx_E) : kx_look 64 (cd_X9_mixedWithGrowing E) = t_il 66 5 := funext fun _ => rfl
theorem lo_X9_mixedWithGrowing_66 (E : kx_E) : kx_look 66 (cd_X9_mixedWithGrowing E) = t_al 67 0 := funext fun _ => rfl
theorem lo_X9_mixedWithGrowing_67 (E : kx_E) : kx_look 67 (cd_X9_mixedWithGrowing E) = t_gR 70 11 201 := funext fun _ => rfl
theorem lo_X9_mixedWithGrowing_70 (E : kx_E) : kx_look 70 (cd_X9_mixedWithGrowing E) = t_fun (f2_Jx4a65c_size_8abf5 E) 0 0 73 1 := funext fun _ => rfl
theorem lo_X9_mixedWithGrowing_73 (E : kx_E) : kx_look 73 (cd_X9_mixedWithGrowing E) = t_ic 76 136 (fun x y => y ≤ x) := funext fun _ => rfl
theorem lo_X9_mixedWithGrowing_76 (E : kx_E) : kx_look 76 (cd_X9_mixedWithGrowing E) = t_al 77 0 := funext fun _ => rfl
theorem lo_X9_mixedWithGrowing_77 (E : kx_E) : kx_look 77 (cd_X9_mixedWithGrowing E) = t_gR 80 11 201 := funext fun _ => rfl
theorem lo_X9_mixedWithGrowing_80 (E : kx_E) : kx_look 80 (cd_X9_mixedWithGrowing E) = t_il 82 5 := funext fun _ => rfl
theorem lo_X9_mixedWithGrowing_82 (E : kx_E) : kx_look 82 (cd_X9_mixedWithGrowing E) = t_fun (f2_Jx4a65c_get_915e3 E) 0 0 85 2 := funext fun _ => rfl
theorem lo_X9_mixedWithGrowing_85 (E : kx_E) : kx_look 85 (cd_X9_mixedWithGrowing E) = t_cst 88 5 := funext fun _ => rfl
theorem lo_X9_mixedWithGrowing_88 (E : kx_E) : kx_look 88 (cd_X9_mixedWithGrowing E) = t_as 90 6 := funext fun _ => rfl
theorem lo_X9_mixedWithGrowing_90 (E : kx_E) : kx_look 90 (cd_X9_mixedWithGrowing E) = t_push 91 (.int 0) := funext fun _ => rfl
theorem lo_X9_mixedWithGrowing_91 (E : kx_E) : kx_look 91 (cd_X9_mixedWithGrowing E) = t_is 93 7 := funext fun _ => rfl
theorem lo_X9_mixedWithGrowing_93 (E : kx_E) : kx_look 93 (cd_X9_mixedWithGrowing E) = t_il 95 7 := funext fun _ => rfl
theorem lo_X9_mixedWithGrowing_95 (E : kx_E) : kx_look 95 (cd_X9_mixedWithGrowing E) = t_push 96 (.int 5) := funext fun _ => rfl
theorem lo_X9_mixedWithGrowing_96 (E : kx_E) : kx_look 96 (cd_X9_mixedWithGrowing E) = t_ic 99 118 (fun x y => y < x) := funext fun _ => rfl
theorem lo_X9_mixedWithGrowing_99 (E : kx_E) : kx_look 99 (cd_X9_mixedWithGrowing E) = t_ll 100 3 := funext fun _ => rfl
theorem lo_X9_mixedWithGrowing_100 (E : kx_E) : kx_look 100 (cd_X9_mixedWithGrowing E) = t_al 102 6 := funext fun _ => rfl
theorem lo_X9_mixedWithGrowing_102 (E : kx_E) : kx_look 102 (cd_X9_mixedWithGrowing E) = t_il 104 7 := funext fun _ => rfl
theorem lo_X9_mixedWithGrowing_104 (E : kx_E) : kx_look 104 (cd_X9_mixedWithGrowing E) = t_fun (f2_X3_numberOf E) 0 0 107 2 := funext fun _ => rfl
theorem lo_X9_mixedWithGrowing_107 (E : kx_E) : kx_look 107 (cd_X9_mixedWithGrowing E) = t_itl 108 := funext fun _ => rfl
theorem lo_X9_mixedWithGrowing_108 (E : kx_E) : kx_look 108 (cd_X9_mixedWithGrowing E) = t_fun (f2_X9_mixed E) 0 0 111 2 := funext fun _ => rfl
theorem lo_X9_mixedWithGrowing_111 (E : kx_E) : kx_look 111 (cd_X9_mixedWithGrowing E) = t_ls 112 3 := funext fun _ => rfl
theorem lo_X9_mixedWithGrowing_112 (E : kx_E) : kx_look 112 (cd_X9_mixedWithGrowing E) = t_inc 115 7 1 := funext fun _ => rfl
theorem lo_X9_mixedWithGrowing_115 (E : kx_E) : kx_look 115 (cd_X9_mixedWithGrowing E) = t_gk 93 8 := funext fun _ => rfl
theorem lo_X9_mixedWithGrowing_118 (E : kx_E) : kx_look 118 (cd_X9_mixedWithGrowing E) = t_ll 119 3 := funext fun _ => rfl
theorem lo_X9_mixedWithGrowing_119 (E : kx_E) : kx_look 119 (cd_X9_mixedWithGrowing E) = t_al 120 0 := funext fun _ => rfl
theorem lo_X9_mixedWithGrowing_120 (E : kx_E) : kx_look 120 (cd_X9_mixedWithGrowing E) = t_al 122 6 := funext fun _ => rfl
theorem lo_X9_mixedWithGrowing_122 (E : kx_E) : kx_look 122 (cd_X9_mixedWithGrowing E) = t_fun (f2_X9_hoursUntilReady E) 0 0 125 2 := funext fun _ => rfl
theorem lo_X9_mixedWithGrowing_125 (E : kx_E) : kx_look 125 (cd_X9_mixedWithGrowing E) = t_itl 126 := funext fun _ => rfl
theorem lo_X9_mixedWithGrowing_126 (E : kx_E) : kx_look 126 (cd_X9_mixedWithGrowing E) = t_fun (f2_X9_mixed E) 0 0 129 2 := funext fun _ => rfl
theorem lo_X9_mixedWithGrowing_129 (E : kx_E) : kx_look 129 (cd_X9_mixedWithGrowing E) = t_ls 130 3 := funext fun _ => rfl
theorem lo_X9_mixedWithGrowing_130 (E : kx_E) : kx_look 130 (cd_X9_mixedWithGrowing E) = t_inc 133 5 1 := funext fun _ => rfl
theorem lo_X9_mixedWithGrowing_133 (E : kx_E) : kx_look 133 (cd_X9_mixedWithGrowing E) = t_gk 64 6 := funext fun _ => rfl
theorem lo_X9_mixedWithGrowing_136 (E : kx_E) : kx_look 136 (cd_X9_mixedWithGrowing E) = t_ll 137 3 := funext fun _ => rfl
theorem lo_X9_mixedWithGrowing_137 (E : kx_E) : kx_look 137 (cd_X9_mixedWithGrowing E) = t_lret := funext fun _ => rfl
theorem lo_X9_mixedWithLots_0 (E : kx_E) : kx_look 0 (cd_X9_mixedWithLots E) = t_ll 1 1 := funext fun _ => rfl
theorem lo_X9_mixedWithLots_1 (E : kx_E) : kx_look 1 (cd_X9_mixedWithLots E) = t_ls 2 3 := funext fun _ => rfl
theorem lo_X9_mixedWithLots_2 (E : kx_E) : kx_look 2 (cd_X9_mixedWithLots E) = t_push 3 (.int 0) := funext fun _ => rfl
theorem lo_X9_mixedWithLots_3 (E : kx_E) : kx_look 3 (cd_X9_mixedWithLots E) = t_is 5 5 := funext fun _ => rfl
theorem lo_X9_mixedWithLots_5 (E : kx_E) : kx_look 5 (cd_X9_mixedWithLots E) = t_il 7 5 := funext fun _ => rfl
theorem lo_X9_mixedWithLots_7 (E : kx_E) : kx_look 7 (cd_X9_mixedWithLots E) = t_al 8 0 := funext fun _ => rfl
theorem lo_X9_mixedWithLots_8 (E : kx_E) : kx_look 8 (cd_X9_mixedWithLots E) = t_gR 11 11 202 := funext fun _ => rfl
theorem lo_X9_mixedWithLots_11 (E : kx_E) : kx_look 11 (cd_X9_mixedWithLots E) = t_fun (f2_Jx4a65c_size_8abf5 E) 0 0 14 1 := funext fun _ => rfl
theorem lo_X9_mixedWithLots_14 (E : kx_E) : kx_look 14 (cd_X9_mixedWithLots E) = t_ic 17 90 (fun x y => y ≤ x) := funext fun _ => rfl
theorem lo_X9_mixedWithLots_17 (E : kx_E) : kx_look 17 (cd_X9_mixedWithLots E) = t_al 18 0 := funext fun _ => rfl
theorem lo_X9_mixedWithLots_18 (E : kx_E) : kx_look 18 (cd_X9_mixedWithLots E) = t_gR 21 11 202 := funext fun _ => rfl
theorem lo_X9_mixedWithLots_21 (E : kx_E) : kx_look 21 (cd_X9_mixedWithLots E) = t_il 23 5 := funext fun _ => rfl
theorem lo_X9_mixedWithLots_23 (E : kx_E) : kx_look 23 (cd_X9_mixedWithLots E) = t_fun (f2_Jx4a65c_get_915e3 E) 0 0 26 2 := funext fun _ => rfl
theorem lo_X9_mixedWithLots_26 (E : kx_E) : kx_look 26 (cd_X9_mixedWithLots E) = t_cst 29 7 := funext fun _ => rfl
theorem lo_X9_mixedWithLots_29 (E : kx_E) : kx_look 29 (cd_X9_mixedWithLots E) = t_as 31 6 := funext fun _ => rfl
theorem lo_X9_mixedWithLots_31 (E : kx_E) : kx_look 31 (cd_X9_mixedWithLots E) = t_push 32 (.int 0) := funext fun _ => rfl
theorem lo_X9_mixedWithLots_32 (E : kx_E) : kx_look 32 (cd_X9_mixedWithLots E) = t_is 34 7 := funext fun _ => rfl
theorem lo_X9_mixedWithLots_34 (E : kx_E) : kx_look 34 (cd_X9_mixedWithLots E) = t_il 36 7 := funext fun _ => rfl
theorem lo_X9_mixedWithLots_36 (E : kx_E) : kx_look 36 (cd_X9_mixedWithLots E) = t_push 38 (.int 9) := funext fun _ => rfl
theorem lo_X9_mixedWithLots_38 (E : kx_E) : kx_look 38 (cd_X9_mixedWithLots E) = t_ic 41 60 (fun x y => y < x) := funext fun _ => rfl
theorem lo_X9_mixedWithLots_41 (E : kx_E) : kx_look 41 (cd_X9_mixedWithLots E) = t_ll 42 3 := funext fun _ => rfl
theorem lo_X9_mixedWithLots_42 (E : kx_E) : kx_look 42 (cd_X9_mixedWithLots E) = t_al 44 6 := funext fun _ => rfl
theorem lo_X9_mixedWithLots_44 (E : kx_E) : kx_look 44 (cd_X9_mixedWithLots E) = t_il 46 7 := funext fun _ => rfl
theorem lo_X9_mixedWithLots_46 (E : kx_E) : kx_look 46 (cd_X9_mixedWithLots E) = t_fun (f2_X5_numberOf E) 0 0 49 2 := funext fun _ => rfl
theorem lo_X9_mixedWithLots_49 (E : kx_E) : kx_look 49 (cd_X9_mixedWithLots E) = t_itl 50 := funext fun _ => rfl
theorem lo_X9_mixedWithLots_50 (E : kx_E) : kx_look 50 (cd_X9_mixedWithLots E) = t_fun (f2_X9_mixed E) 0 0 53 2 := funext fun _ => rfl
theorem lo_X9_mixedWithLots_53 (E : kx_E) : kx_look 53 (cd_X9_mixedWithLots E) = t_ls 54 3 := funext fun _ => rfl
theorem lo_X9_mixedWithLots_54 (E : kx_E) : kx_look 54 (cd_X9_mixedWithLots E) = t_inc 57 7 1 := funext fun _ => rfl
theorem lo_X9_mixedWithLots_57 (E : kx_E) : kx_look 57 (cd_X9_mixedWithLots E) = t_gk 34 8 := funext fun _ => rfl
theorem lo_X9_mixedWithLots_60 (E : kx_E) : kx_look 60 (cd_X9_mixedWithLots E) = t_ll 61 3 := funext fun _ => rfl
theorem lo_X9_mixedWithLots_61 (E : kx_E) : kx_look 61 (cd_X9_mixedWithLots E) = t_al 62 0 := funext fun _ => rfl
theorem lo_X9_mixedWithLots_62 (E : kx_E) : kx_look 62 (cd_X9_mixedWithLots E) = t_al 64 6 := funext fun _ => rfl
theorem lo_X9_mixedWithLots_64 (E : kx_E) : kx_look 64 (cd_X9_mixedWithLots E) = t_fun (f2_X9_firstPriceOf E) 0 0 67 2 := funext fun _ => rfl
theorem lo_X9_mixedWithLots_67 (E : kx_E) : kx_look 67 (cd_X9_mixedWithLots E) = t_itl 68 := funext fun _ => rfl
theorem lo_X9_mixedWithLots_68 (E : kx_E) : kx_look 68 (cd_X9_mixedWithLots E) = t_fun (f2_X9_mixed E) 0 0 71 2 := funext fun _ => rfl
theorem lo_X9_mixedWithLots_71 (E : kx_E) : kx_look 71 (cd_X9_mixedWithLots E) = t_ls 72 3 := funext fun _ => rfl
theorem lo_X9_mixedWithLots_72 (E : kx_E) : kx_look 72 (cd_X9_mixedWithLots E) = t_ll 73 3 := funext fun _ => rfl
theorem lo_X9_mixedWithLots_73 (E : kx_E) : kx_look 73 (cd_X9_mixedWithLots E) = t_al 74 0 := funext fun _ => rfl
theorem lo_X9_mixedWithLots_74 (E : kx_E) : kx_look 74 (cd_X9_mixedWithLots E) = t_al 76 6 := funext fun _ => rfl
theorem lo_X9_mixedWithLots_76 (E : kx_E) : kx_look 76 (cd_X9_mixedWithLots E) = t_fun (f2_X9_lowestPriceOf E) 0 0 79 2 := funext fun _ => rfl
theorem lo_X9_mixedWithLots_79 (E : kx_E) : kx_look 79 (cd_X9_mixedWithLots E) = t_itl 80 := funext fun _ => rfl
theorem lo_X9_mixedWithLots_80 (E : kx_E) : kx_look 80 (cd_X9_mixedWithLots E) = t_fun (f2_X9_mixed E) 0 0 83 2 := funext fun _ => rfl
theorem lo_X9_mixedWithLots_83 (E : kx_E) : kx_look 83 (cd_X9_mixedWithLots E) = t_ls 84 3 := funext fun _ => rfl
theorem lo_X9_mixedWithLots_84 (E : kx_E) : kx_look 84 (cd_X9_mixedWithLots E) = t_inc 87 5 1 := funext fun _ => rfl
theorem lo_X9_mixedWithLots_87 (E : kx_E) : kx_look 87 (cd_X9_mixedWithLots E) = t_gk 5 6 := funext fun _ => rfl
theorem lo_X9_mixedWithLots_90 (E : kx_E) : kx_look 90 (cd_X9_mixedWithLots E) = t_ll 91 3 := funext fun _ => rfl
theorem lo_X9_mixedWithLots_91 (E : kx_E) : kx_look 91 (cd_X9_mixedWithLots E) = t_lret := funext fun _ => rfl
theorem lo_X9_mixedWithTrade_0 (E : kx_E) : kx_look 0 (cd_X9_mixedWithTrade E) = t_ll 1 1 := funext fun _ => rfl
theorem lo_X9_mixedWithTrade_1 (E : kx_E) : kx_look 1 (cd_X9_mixedWithTrade E) = t_ls 2 3 := funext fun _ => rfl
theorem lo_X9_mixedWithTrade_2 (E : kx_E) : kx_look 2 (cd_X9_mixedWithTrade E) = t_push 3 (.int 0) := funext fun _ => rfl
theorem lo_X9_mixedWithTrade_3 (E : kx_E) : kx_look 3 (cd_X9_mixedWithTrade E) = t_is 5 5 := funext fun _ => rfl
theorem lo_X9_mixedWithTrade_5 (E : kx_E) : kx_look 5 (cd_X9_mixedWithTrade E) = t_il 7 5 := funext fun _ => rfl
theorem lo_X9_mixedWithTrade_7 (E : kx_E) : kx_look 7 (cd_X9_mixedWithTrade E) = t_al 8 0 := funext fun _ => rfl
theorem lo_X9_mixedWithTrade_8 (E : kx_E) : kx_look 8 (cd_X9_mixedWithTrade E) = t_gR 11 11 204 := funext fun _ => rfl
theorem lo_X9_mixedWithTrade_11 (E : kx_E) : kx_look 11 (cd_X9_mixedWithTrade E) = t_fun (f2_Jx4a65c_size_8abf5 E) 0 0 14 1 := funext fun _ => rfl
theorem lo_X9_mixedWithTrade_14 (E : kx_E) : kx_look 14 (cd_X9_mixedWithTrade E) = t_ic 17 62 (fun x y => y ≤ x) := funext fun _ => rfl
theorem lo_X9_mixedWithTrade_17 (E : kx_E) : kx_look 17 (cd_X9_mixedWithTrade E) = t_push 18 (.int 0) := funext fun _ => rfl
theorem lo_X9_mixedWithTrade_18 (E : kx_E) : kx_look 18 (cd_X9_mixedWithTrade E) = t_is 20 6 := funext fun _ => rfl
theorem lo_X9_mixedWithTrade_20 (E : kx_E) : kx_look 20 (cd_X9_mixedWithTrade E) = t_il 22 6 := funext fun _ => rfl
theorem lo_X9_mixedWithTrade_22 (E : kx_E) : kx_look 22 (cd_X9_mixedWithTrade E) = t_push 24 (.int 8) := funext fun _ => rfl
theorem lo_X9_mixedWithTrade_24 (E : kx_E) : kx_look 24 (cd_X9_mixedWithTrade E) = t_ic 27 56 (fun x y => y < x) := funext fun _ => rfl
theorem lo_X9_mixedWithTrade_27 (E : kx_E) : kx_look 27 (cd_X9_mixedWithTrade E) = t_ll 28 3 := funext fun _ => rfl
theorem lo_X9_mixedWithTrade_28 (E : kx_E) : kx_look 28 (cd_X9_mixedWithTrade E) = t_al 29 0 := funext fun _ => rfl
theorem lo_X9_mixedWithTrade_29 (E : kx_E) : kx_look 29 (cd_X9_mixedWithTrade E) = t_gR 32 11 204 := funext fun _ => rfl
theorem lo_X9_mixedWithTrade_32 (E : kx_E) : kx_look 32 (cd_X9_mixedWithTrade E) = t_il 34 5 := funext fun _ => rfl
theorem lo_X9_mixedWithTrade_34 (E : kx_E) : kx_look 34 (cd_X9_mixedWithTrade E) = t_fun (f2_Jx4a65c_get_915e3 E) 0 0 37 2 := funext fun _ => rfl
theorem lo_X9_mixedWithTrade_37 (E : kx_E) : kx_look 37 (cd_X9_mixedWithTrade E) = t_cst 40 2 := funext fun _ => rfl
theorem lo_X9_mixedWithTrade_40 (E : kx_E) : kx_look 40 (cd_X9_mixedWithTrade E) = t_il 42 6 := funext fun _ => rfl
theorem lo_X9_mixedWithTrade_42 (E : kx_E) : kx_look 42 (cd_X9_mixedWithTrade E) = t_fun (f2_X0_numberOf E) 0 0 45 2 := funext fun _ => rfl
theorem lo_X9_mixedWithTrade_45 (E : kx_E) : kx_look 45 (cd_X9_mixedWithTrade E) = t_itl 46 := funext fun _ => rfl
theorem lo_X9_mixedWithTrade_46 (E : kx_E) : kx_look 46 (cd_X9_mixedWithTrade E) = t_fun (f2_X9_mixed E) 0 0 49 2 := funext fun _ => rfl
theorem lo_X9_mixedWithTrade_49 (E : kx_E) : kx_look 49 (cd_X9_mixedWithTrade E) = t_ls 50 3 := funext fun _ => rfl
theorem lo_X9_mixedWithTrade_50 (E : kx_E) : kx_look 50 (cd_X9_mixedWithTrade E) = t_inc 53 6 1 := funext fun _ => rfl
theorem lo_X9_mixedWithTrade_53 (E : kx_E) : kx_look 53 (cd_X9_mixedWithTrade E) = t_gk 20 7 := funext fun _ => rfl
theorem lo_X9_mixedWithTrade_56 (E : kx_E) : kx_look 56 (cd_X9_mixedWithTrade E) = t_inc 59 5 1 := funext fun _ => rfl
theorem lo_X9_mixedWithTrade_59 (E : kx_E) : kx_look 59 (cd_X9_mixedWithTrade E) = t_gk 5 6 := funext fun _ => rfl
theorem lo_X9_mixedWithTrade_62 (E : kx_E) : kx_look 62 (cd_X9_mixedWithTrade E) = t_push 63 (.int 0) := funext fun _ => rfl
theorem lo_X9_mixedWithTrade_63 (E : kx_E) : kx_look 63 (cd_X9_mixedWithTrade E) = t_is 65 5 := funext fun _ => rfl
theorem lo_X9_mixedWithTrade_65 (E : kx_E) : kx_look 65 (cd_X9_mixedWithTrade E) = t_il 67 5 := funext fun _ => rfl
theorem lo_X9_mixedWithTrade_67 (E : kx_E) : kx_look 67 (cd_X9_mixedWithTrade E) = t_al 68 0 := funext fun _ => rfl
theorem lo_X9_mixedWithTrade_68 (E : kx_E) : kx_look 68 (cd_X9_mixedWithTrade E) = t_gR 71 11 205 := funext fun _ => rfl
theorem lo_X9_mixedWithTrade_71 (E : kx_E) : kx_look 71 (cd_X9_mixedWithTrade E) = t_fun (f2_Jx4a65c_size_8abf5 E) 0 0 74 1 := funext fun _ => rfl
theorem lo_X9_mixedWithTrade_74 (E : kx_E) : kx_look 74 (cd_X9_mixedWithTrade E) = t_ic 77 104 (fun x y => y ≤ x) := funext fun _ => rfl
theorem lo_X9_mixedWithTrade_77 (E : kx_E) : kx_look 77 (cd_X9_mixedWithTrade E) = t_ll 78 3 := funext fun _ => rfl
theorem lo_X9_mixedWithTrade_78 (E : kx_E) : kx_look 78 (cd_X9_mixedWithTrade E) = t_al 79 0 := funext fun _ => rfl
theorem lo_X9_mixedWithTrade_79 (E : kx_E) : kx_look 79 (cd_X9_mixedWithTrade E) = t_gR 82 11 205 := funext fun _ => rfl
theorem lo_X9_mixedWithTrade_82 (E : kx_E) : kx_look 82 (cd_X9_mixedWithTrade E) = t_il 84 5 := funext fun _ => rfl
theorem lo_X9_mixedWithTrade_84 (E : kx_E) : kx_look 84 (cd_X9_mixedWithTrade E) = t_fun (f2_Jx4a65c_get_915e3 E) 0 0 87 2 := funext fun _ => rfl
theorem lo_X9_mixedWithTrade_87 (E : kx_E) : kx_look 87 (cd_X9_mixedWithTrade E) = t_cst 90 8 := funext fun _ => rfl
theorem lo_X9_mixedWithTrade_90 (E : kx_E) : kx_look 90 (cd_X9_mixedWithTrade E) = t_gI 93 8 146 := funext fun _ => rfl
theorem lo_X9_mixedWithTrade_93 (E : kx_E) : kx_look 93 (cd_X9_mixedWithTrade E) = t_itl 94 := funext fun _ => rfl
theorem lo_X9_mixedWithTrade_94 (E : kx_E) : kx_look 94 (cd_X9_mixedWithTrade E) = t_fun (f2_X9_mixed E) 0 0 97 2 := funext fun _ => rfl
theorem lo_X9_mixedWithTrade_97 (E : kx_E) : kx_look 97 (cd_X9_mixedWithTrade E) = t_ls 98 3 := funext fun _ => rfl
theorem lo_X9_mixedWithTrade_98 (E : kx_E) : kx_look 98 (cd_X9_mixedWithTrade E) = t_inc 101 5 1 := funext fun _ => rfl
theorem lo_X9_mixedWithTrade_101 (E : kx_E) : kx_look 101 (cd_X9_mixedWithTrade E) = t_gk 65 6 := funext fun _ => rfl
theorem lo_X9_mixedWithTrade_104 (E : kx_E) : kx_look 104 (cd_X9_mixedWithTrade E) = t_al 105 0 := funext fun _ => rfl
theorem lo_X9_mixedWithTrade_105 (E : kx_E) : kx_look 105 (cd_X9_mixedWithTrade E) = t_gR 108 11 207 := funext fun _ => rfl
theorem lo_X9_mixedWithTrade_108 (E : kx_E) : kx_look 108 (cd_X9_mixedWithTrade E) = t_fun (f2_Jx4a65c_size_8abf5 E) 0 0 111 1 := funext fun _ => rfl
theorem lo_X9_mixedWithTrade_111 (E : kx_E) : kx_look 111 (cd_X9_mixedWithTrade E) = t_push 112 (.int 1) := funext fun _ => rfl
theorem lo_X9_mixedWithTrade_112 (E : kx_E) : kx_look 112 (cd_X9_mixedWithTrade E) = t_bin 113 (fun x y => x - y) := funext fun _ => rfl
theorem lo_X9_mixedWithTrade_113 (E : kx_E) : kx_look 113 (cd_X9_mixedWithTrade E) = t_is 115 5 := funext fun _ => rfl
theorem lo_X9_mixedWithTrade_115 (E : kx_E) : kx_look 115 (cd_X9_mixedWithTrade E) = t_il 117 5 := funext fun _ => rfl
theorem lo_X9_mixedWithTrade_117 (E : kx_E) : kx_look 117 (cd_X9_mixedWithTrade E) = t_if 120 164 (fun x => x < 0) := funext fun _ => rfl
theorem lo_X9_mixedWithTrade_120 (E : kx_E) : kx_look 120 (cd_X9_mixedWithTrade E) = t_push 121 (.int 0) := funext fun _ => rfl
theorem lo_X9_mixedWithTrade_121 (E : kx_E) : kx_look 121 (cd_X9_mixedWithTrade E) = t_is 123 6 := funext fun _ => rfl
theorem lo_X9_mixedWithTrade_123 (E : kx_E) : kx_look 123 (cd_X9_mixedWithTrade E) = t_il 125 6 := funext fun _ => rfl
theorem lo_X9_mixedWithTrade_125 (E : kx_E) : kx_look 125 (cd_X9_mixedWithTrade E) = t_push 126 (.int 4) := funext fun _ => rfl
theorem lo_X9_mixedWithTrade_126 (E : kx_E) : kx_look 126 (cd_X9_mixedWithTrade E) = t_ic 129 158 (fun x y => y < x) := funext fun _ => rfl
theorem lo_X9_mixedWithTrade_129 (E : kx_E) : kx_look 129 (cd_X9_mixedWithTrade E) = t_ll 130 3 := funext fun _ => rfl
theorem lo_X9_mixedWithTrade_130 (E : kx_E) : kx_look 130 (cd_X9_mixedWithTrade E) = t_al 131 0 := funext fun _ => rfl
theorem lo_X9_mixedWithTrade_131 (E : kx_E) : kx_look 131 (cd_X9_mixedWithTrade E) = t_gR 134 11 207 := funext fun _ => rfl
theorem lo_X9_mixedWithTrade_134 (E : kx_E) : kx_look 134 (cd_X9_mixedWithTrade E) = t_il 136 5 := funext fun _ => rfl
theorem lo_X9_mixedWithTrade_136 (E : kx_E) : kx_look 136 (cd_X9_mixedWithTrade E) = t_fun (f2_Jx4a65c_get_915e3 E) 0 0 139 2 := funext fun _ => rfl
theorem lo_X9_mixedWithTrade_139 (E : kx_E) : kx_look 139 (cd_X9_mixedWithTrade E) = t_cst 142 9 := funext fun _ => rfl
theorem lo_X9_mixedWithTrade_142 (E : kx_E) : kx_look 142 (cd_X9_mixedWithTrade E) = t_il 144 6 := funext fun _ => rfl
theorem lo_X9_mixedWithTrade_144 (E : kx_E) : kx_look 144 (cd_X9_mixedWithTrade E) = t_fun (f2_X7_numberOf E) 0 0 147 2 := funext fun _ => rfl
theorem lo_X9_mixedWithTrade_147 (E : kx_E) : kx_look 147 (cd_X9_mixedWithTrade E) = t_itl 148 := funext fun _ => rfl
theorem lo_X9_mixedWithTrade_148 (E : kx_E) : kx_look 148 (cd_X9_mixedWithTrade E) = t_fun (f2_X9_mixed E) 0 0 151 2 := funext fun _ => rfl
theorem lo_X9_mixedWithTrade_151 (E : kx_E) : kx_look 151 (cd_X9_mixedWithTrade E) = t_ls 152 3 := funext fun _ => rfl
theorem lo_X9_mixedWithTrade_152 (E : kx_E) : kx_look 152 (cd_X9_mixedWithTrade E) = t_inc 155 6 1 := funext fun _ => rfl
theorem lo_X9_mixedWithTrade_155 (E : kx_E) : kx_look 155 (cd_X9_mixedWithTrade E) = t_gk 123 7 := funext fun _ => rfl
theorem lo_X9_mixedWithTrade_158 (E : kx_E) : kx_look 158 (cd_X9_mixedWithTrade E) = t_inc 161 5 (-1) := funext fun _ => rfl
theorem lo_X9_mixedWithTrade_161 (E : kx_E) : kx_look 161 (cd_X9_mixedWithTrade E) = t_gk 115 6 := funext fun _ => rfl
theorem lo_X9_mixedWithTrade_164 (E : kx_E) : kx_look 164 (cd_X9_mixedWithTrade E) = t_ll 165 3 := funext fun _ => rfl
theorem lo_X9_mixedWithTrade_165 (E : kx_E) : kx_look 165 (cd_X9_mixedWithTrade E) = t_lret := funext fun _ => rfl
theorem lo_X9_init_0 (E : kx_E) : kx_look 0 (cd_X9_init E) = t_al 1 0 := funext fun _ => rfl
theorem lo_X9_init_1 (E : kx_E) : kx_look 1 (cd_X9_init E) = t_oin 4 := funext fun _ => rfl
theorem lo_X9_init_4 (E : kx_E) : kx_look 4 (cd_X9_init E) = t_al 5 0 := funext fun _ => rfl
theorem lo_X9_init_5 (E : kx_E) : kx_look 5 (cd_X9_init E) = t_new 8 12 3 := funext fun _ => rfl
theorem lo_X9_init_8 (E : kx_E) : kx_look 8 (cd_X9_init E) = t_dup 9 := funext fun _ => rfl
theorem lo_X9_init_9 (E : kx_E) : kx_look 9 (cd_X9_init E) = t_fun (f2_Jx4a65c_init_da8c8 E) 0 0 12 1 := funext fun _ => rfl
theorem lo_X9_init_12 (E : kx_E) : kx_look 12 (cd_X9_init E) = t_pR 15 11 200 := funext fun _ => rfl
theorem lo_X9_init_15 (E : kx_E) : kx_look 15 (cd_X9_init E) = t_al 16 0 := funext fun _ => rfl
theorem lo_X9_init_16 (E : kx_E) : kx_look 16 (cd_X9_init E) = t_new 19 12 3 := funext fun _ => rfl
theorem lo_X9_init_19 (E : kx_E) : kx_look 19 (cd_X9_init E) = t_dup 20 := funext fun _ => rfl
theorem lo_X9_init_20 (E : kx_E) : kx_look 20 (cd_X9_init E) = t_fun (f2_Jx4a65c_init_da8c8 E) 0 0 23 1 := funext fun _ => rfl
theorem lo_X9_init_23 (E : kx_E) : kx_look 23 (cd_X9_init E) = t_pR 26 11 201 := funext fun _ => rfl
theorem lo_X9_init_26 (E : kx_E) : kx_look 26 (cd_X9_init E) = t_al 27 0 := funext fun _ => rfl
theorem lo_X9_init_27 (E : kx_E) : kx_look 27 (cd_X9_init E) = t_new 30 12 3 := funext fun _ => rfl
theorem lo_X9_init_30 (E : kx_E) : kx_look 30 (cd_X9_init E) = t_dup 31 := funext fun _ => rfl
theorem lo_X9_init_31 (E : kx_E) : kx_look 31 (cd_X9_init E) = t_fun (f2_Jx4a65c_init_da8c8 E) 0 0 34 1 := funext fun _ => rfl
theorem lo_X9_init_34 (E : kx_E) : kx_look 34 (cd_X9_init E) = t_pR 37 11 202 := funext fun _ => rfl
theorem lo_X9_init_37 (E : kx_E) : kx_look 37 (cd_X9_init E) = t_al 38 0 := funext fun _ => rfl
theorem lo_X9_init_38 (E : kx_E) : kx_look 38 (cd_X9_init E) = t_new 41 12 3 := funext fun _ => rfl
theorem lo_X9_init_41 (E : kx_E) : kx_look 41 (cd_X9_init E) = t_dup 42 := funext fun _ => rfl
theorem lo_X9_init_42 (E : kx_E) : kx_look 42 (cd_X9_init E) = t_fun (f2_Jx4a65c_init_da8c8 E) 0 0 45 1 := funext fun _ => rfl
theorem lo_X9_init_45 (E : kx_E) : kx_look 45 (cd_X9_init E) = t_pR 48 11 203 := funext fun _ => rfl
theorem lo_X9_init_48 (E : kx_E) : kx_look 48 (cd_X9_init E) = t_al 49 0 := funext fun _ => rfl
theorem lo_X9_init_49 (E : kx_E) : kx_look 49 (cd_X9_init E) = t_new 52 12 3 := funext fun _ => rfl
theorem lo_X9_init_52 (E : kx_E) : kx_look 52 (cd_X9_init E) = t_dup 53 := funext fun _ => rfl
theorem lo_X9_init_53 (E : kx_E) : kx_look 53 (cd_X9_init E) = t_fun (f2_Jx4a65c_init_da8c8 E) 0 0 56 1 := funext fun _ => rfl
theorem lo_X9_init_56 (E : kx_E) : kx_look 56 (cd_X9_init E) = t_pR 59 11 204 := funext fun _ => rfl
theorem lo_X9_init_59 (E : kx_E) : kx_look 59 (cd_X9_init E) = t_al 60 0 := funext fun _ => rfl
theorem lo_X9_init_60 (E : kx_E) : kx_look 60 (cd_X9_init E) = t_new 63 12 3 := funext fun _ => rfl
theorem lo_X9_init_63 (E : kx_E) : kx_look 63 (cd_X9_init E) = t_dup 64 := funext fun _ => rfl
theorem lo_X9_init_64 (E : kx_E) : kx_look 64 (cd_X9_init E) = t_fun (f2_Jx4a65c_init_da8c8 E) 0 0 67 1 := funext fun _ => rfl
theorem lo_X9_init_67 (E : kx_E) : kx_look 67 (cd_X9_init E) = t_pR 70 11 205 := funext fun _ => rfl
theorem lo_X9_init_70 (E : kx_E) : kx_look 70 (cd_X9_init E) = t_al 71 0 := funext fun _ => rfl
theorem lo_X9_init_71 (E : kx_E) : kx_look 71 (cd_X9_init E) = t_new 74 12 3 := funext fun _ => rfl
theorem lo_X9_init_74 (E : kx_E) : kx_look 74 (cd_X9_init E) = t_dup 75 := funext fun _ => rfl
theorem lo_X9_init_75 (E : kx_E) : kx_look 75 (cd_X9_init E) = t_fun (f2_Jx4a65c_init_da8c8 E) 0 0 78 1 := funext fun _ => rfl
theorem lo_X9_init_78 (E : kx_E) : kx_look 78 (cd_X9_init E) = t_pR 81 11 206 := funext fun _ => rfl
theorem lo_X9_init_81 (E : kx_E) : kx_look 81 (cd_X9_init E) = t_al 82 0 := funext fun _ => rfl
theorem lo_X9_init_82 (E : kx_E) : kx_look 82 (cd_X9_init E) = t_new 85 12 3 := funext fun _ => rfl
theorem lo_X9_init_85 (E : kx_E) : kx_look 85 (cd_X9_init E) = t_dup 86 := funext fun _ => rfl
theorem lo_X9_init_86 (E : kx_E) : kx_look 86 (cd_X9_init E) = t_fun (f2_Jx4a65c_init_da8c8 E) 0 0 89 1 := funext fun _ => rfl
theorem lo_X9_init_89 (E : kx_E) : kx_look 89 (cd_X9_init E) = t_pR 92 11 207 := funext fun _ => rfl
theorem lo_X9_init_92 (E : kx_E) : kx_look 92 (cd_X9_init E) = t_al 93 0 := funext fun _ => rfl
theorem lo_X9_init_93 (E : kx_E) : kx_look 93 (cd_X9_init E) = t_new 96 13 1 := funext fun _ => rfl
theorem lo_X9_init_96 (E : kx_E) : kx_look 96 (cd_X9_init E) = t_dup 97 := funext fun _ => rfl
theorem lo_X9_init_97 (E : kx_E) : kx_look 97 (cd_X9_init E) = t_push 100 (.int 500) := funext fun _ => rfl
theorem lo_X9_init_100 (E : kx_E) : kx_look 100 (cd_X9_init E) = t_fun (f2_X1_init E) 1 3 103 2 := funext fun _ => rfl
theorem lo_X9_init_103 (E : kx_E) : kx_look 103 (cd_X9_init E) = t_pR 106 11 208 := funext fun _ => rfl
theorem lo_X9_init_106 (E : kx_E) : kx_look 106 (cd_X9_init E) = t_al 107 0 := funext fun _ => rfl
theorem lo_X9_init_107 (E : kx_E) : kx_look 107 (cd_X9_init E) = t_new 110 4 10 := funext fun _ => rfl
theorem lo_X9_init_110 (E : kx_E) : kx_look 110 (cd_X9_init E) = t_dup 111 := funext fun _ => rfl
theorem lo_X9_init_111 (E : kx_E) : kx_look 111 (cd_X9_init E) = t_fun (f2_X2_init E) 0 0 114 1 := funext fun _ => rfl
theorem lo_X9_init_114 (E : kx_E) : kx_look 114 (cd_X9_init E) = t_pR 117 11 209 := funext fun _ => rfl
theorem lo_X9_init_117 (E : kx_E) : kx_look 117 (cd_X9_init E) = t_al 118 0 := funext fun _ => rfl
theorem lo_X9_init_118 (E : kx_E) : kx_look 118 (cd_X9_init E) = t_push 119 (.int 5) := funext fun _ => rfl
theorem lo_X9_init_119 (E : kx_E) : kx_look 119 (cd_X9_init E) = t_pI 122 11 211 := funext fun _ => rfl
theorem lo_X9_init_122 (E : kx_E) : kx_look 122 (cd_X9_init E) = t_al 123 0 := funext fun _ => rfl
theorem lo_X9_init_123 (E : kx_E) : kx_look 123 (cd_X9_init E) = t_push 125 (.int 60) := funext fun _ => rfl
theorem lo_X9_init_125 (E : kx_E) : kx_look 125 (cd_X9_init E) = t_pI 128 11 212 := funext fun _ => rfl
theorem lo_X9_init_128 (E : kx_E) : kx_look 128 (cd_X9_init E) = t_al 129 0 := funext fun _ => rfl
theorem lo_X9_init_129 (E : kx_E) : kx_look 129 (cd_X9_init E) = t_push 130 (.int 2) := funext fun _ => rfl
theorem lo_X9_init_130 (E : kx_E) : kx_look 130 (cd_X9_init E) = t_pI 133 11 213 := funext fun _ => rfl
theorem lo_X9_init_133 (E : kx_E) : kx_look 133 (cd_X9_init E) = t_vret := funext fun _ => rfl
