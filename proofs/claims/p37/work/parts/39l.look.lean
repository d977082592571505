theorem lo_X9_presell_0 (E : kx_E) : kx_look 0 (cd_X9_presell E) = t_al 1 0 := funext fun _ => rfl
theorem lo_X9_presell_1 (E : kx_E) : kx_look 1 (cd_X9_presell E) = t_il 2 1 := funext fun _ => rfl
theorem lo_X9_presell_2 (E : kx_E) : kx_look 2 (cd_X9_presell E) = t_fun (f2_X9_lotAt E) 0 0 5 2 := funext fun _ => rfl
theorem lo_X9_presell_5 (E : kx_E) : kx_look 5 (cd_X9_presell E) = t_as 7 5 := funext fun _ => rfl
theorem lo_X9_presell_7 (E : kx_E) : kx_look 7 (cd_X9_presell E) = t_al 8 0 := funext fun _ => rfl
theorem lo_X9_presell_8 (E : kx_E) : kx_look 8 (cd_X9_presell E) = t_il 9 2 := funext fun _ => rfl
theorem lo_X9_presell_9 (E : kx_E) : kx_look 9 (cd_X9_presell E) = t_fun (f2_X9_buyerAt E) 0 0 12 2 := funext fun _ => rfl
theorem lo_X9_presell_12 (E : kx_E) : kx_look 12 (cd_X9_presell E) = t_as 14 6 := funext fun _ => rfl
theorem lo_X9_presell_14 (E : kx_E) : kx_look 14 (cd_X9_presell E) = t_il 15 3 := funext fun _ => rfl
theorem lo_X9_presell_15 (E : kx_E) : kx_look 15 (cd_X9_presell E) = t_push 16 (.int 1) := funext fun _ => rfl
theorem lo_X9_presell_16 (E : kx_E) : kx_look 16 (cd_X9_presell E) = t_ic 19 30 (fun x y => x < y) := funext fun _ => rfl
theorem lo_X9_presell_19 (E : kx_E) : kx_look 19 (cd_X9_presell E) = t_il 21 4 := funext fun _ => rfl
theorem lo_X9_presell_21 (E : kx_E) : kx_look 21 (cd_X9_presell E) = t_push 22 (.int 1) := funext fun _ => rfl
theorem lo_X9_presell_22 (E : kx_E) : kx_look 22 (cd_X9_presell E) = t_push 24 (.int 99) := funext fun _ => rfl
theorem lo_X9_presell_24 (E : kx_E) : kx_look 24 (cd_X9_presell E) = t_fun (f2_X9_isWithin E) 0 0 27 3 := funext fun _ => rfl
theorem lo_X9_presell_27 (E : kx_E) : kx_look 27 (cd_X9_presell E) = t_if 30 41 (fun x => x ≠ 0) := funext fun _ => rfl
theorem lo_X9_presell_30 (E : kx_E) : kx_look 30 (cd_X9_presell E) = t_no := funext fun _ => rfl
theorem lo_X9_presell_41 (E : kx_E) : kx_look 41 (cd_X9_presell E) = t_al 43 5 := funext fun _ => rfl
theorem lo_X9_presell_43 (E : kx_E) : kx_look 43 (cd_X9_presell E) = t_gI 46 7 129 := funext fun _ => rfl
theorem lo_X9_presell_46 (E : kx_E) : kx_look 46 (cd_X9_presell E) = t_if 49 70 (fun x => x ≠ 0) := funext fun _ => rfl
theorem lo_X9_presell_49 (E : kx_E) : kx_look 49 (cd_X9_presell E) = t_il 50 3 := funext fun _ => rfl
theorem lo_X9_presell_50 (E : kx_E) : kx_look 50 (cd_X9_presell E) = t_al 52 5 := funext fun _ => rfl
theorem lo_X9_presell_52 (E : kx_E) : kx_look 52 (cd_X9_presell E) = t_gI 55 7 125 := funext fun _ => rfl
theorem lo_X9_presell_55 (E : kx_E) : kx_look 55 (cd_X9_presell E) = t_ic 58 70 (fun x y => y < x) := funext fun _ => rfl
theorem lo_X9_presell_58 (E : kx_E) : kx_look 58 (cd_X9_presell E) = t_il 60 4 := funext fun _ => rfl
theorem lo_X9_presell_60 (E : kx_E) : kx_look 60 (cd_X9_presell E) = t_il 61 3 := funext fun _ => rfl
theorem lo_X9_presell_61 (E : kx_E) : kx_look 61 (cd_X9_presell E) = t_bin 62 (fun x y => x * y) := funext fun _ => rfl
theorem lo_X9_presell_62 (E : kx_E) : kx_look 62 (cd_X9_presell E) = t_al 64 6 := funext fun _ => rfl
theorem lo_X9_presell_64 (E : kx_E) : kx_look 64 (cd_X9_presell E) = t_gI 67 2 23 := funext fun _ => rfl
theorem lo_X9_presell_67 (E : kx_E) : kx_look 67 (cd_X9_presell E) = t_ic 70 81 (fun x y => x ≤ y) := funext fun _ => rfl
theorem lo_X9_presell_70 (E : kx_E) : kx_look 70 (cd_X9_presell E) = t_no := funext fun _ => rfl
theorem lo_X9_presell_81 (E : kx_E) : kx_look 81 (cd_X9_presell E) = t_al 82 0 := funext fun _ => rfl
theorem lo_X9_presell_82 (E : kx_E) : kx_look 82 (cd_X9_presell E) = t_al 84 5 := funext fun _ => rfl
theorem lo_X9_presell_84 (E : kx_E) : kx_look 84 (cd_X9_presell E) = t_al 86 6 := funext fun _ => rfl
theorem lo_X9_presell_86 (E : kx_E) : kx_look 86 (cd_X9_presell E) = t_push 87 .null := funext fun _ => rfl
theorem lo_X9_presell_87 (E : kx_E) : kx_look 87 (cd_X9_presell E) = t_il 88 3 := funext fun _ => rfl
theorem lo_X9_presell_88 (E : kx_E) : kx_look 88 (cd_X9_presell E) = t_il 90 4 := funext fun _ => rfl
theorem lo_X9_presell_90 (E : kx_E) : kx_look 90 (cd_X9_presell E) = t_call (c2t_X9_sell E) 93 6 11 := funext fun _ => rfl
theorem lo_X9_presell_93 (E : kx_E) : kx_look 93 (cd_X9_presell E) = t_il 95 4 := funext fun _ => rfl
theorem lo_X9_presell_95 (E : kx_E) : kx_look 95 (cd_X9_presell E) = t_il 96 3 := funext fun _ => rfl
theorem lo_X9_presell_96 (E : kx_E) : kx_look 96 (cd_X9_presell E) = t_bin 97 (fun x y => x * y) := funext fun _ => rfl
theorem lo_X9_presell_97 (E : kx_E) : kx_look 97 (cd_X9_presell E) = t_fun (f2_X9_shareOfGrower E) 0 0 100 1 := funext fun _ => rfl
theorem lo_X9_presell_100 (E : kx_E) : kx_look 100 (cd_X9_presell E) = t_iret := funext fun _ => rfl
theorem lo_X9_undo_0 (E : kx_E) : kx_look 0 (cd_X9_undo E) = t_al 1 0 := funext fun _ => rfl
theorem lo_X9_undo_1 (E : kx_E) : kx_look 1 (cd_X9_undo E) = t_gR 4 11 207 := funext fun _ => rfl
theorem lo_X9_undo_4 (E : kx_E) : kx_look 4 (cd_X9_undo E) = t_fun (f2_Jx4a65c_isEmpty_aae02 E) 0 0 7 1 := funext fun _ => rfl
theorem lo_X9_undo_7 (E : kx_E) : kx_look 7 (cd_X9_undo E) = t_if 10 21 (fun x => x = 0) := funext fun _ => rfl
theorem lo_X9_undo_10 (E : kx_E) : kx_look 10 (cd_X9_undo E) = t_no := funext fun _ => rfl
theorem lo_X9_undo_21 (E : kx_E) : kx_look 21 (cd_X9_undo E) = t_al 22 0 := funext fun _ => rfl
theorem lo_X9_undo_22 (E : kx_E) : kx_look 22 (cd_X9_undo E) = t_gR 25 11 207 := funext fun _ => rfl
theorem lo_X9_undo_25 (E : kx_E) : kx_look 25 (cd_X9_undo E) = t_al 26 0 := funext fun _ => rfl
theorem lo_X9_undo_26 (E : kx_E) : kx_look 26 (cd_X9_undo E) = t_gR 29 11 207 := funext fun _ => rfl
theorem lo_X9_undo_29 (E : kx_E) : kx_look 29 (cd_X9_undo E) = t_fun (f2_Jx4a65c_size_8abf5 E) 0 0 32 1 := funext fun _ => rfl
theorem lo_X9_undo_32 (E : kx_E) : kx_look 32 (cd_X9_undo E) = t_push 33 (.int 1) := funext fun _ => rfl
theorem lo_X9_undo_33 (E : kx_E) : kx_look 33 (cd_X9_undo E) = t_bin 34 (fun x y => x - y) := funext fun _ => rfl
theorem lo_X9_undo_34 (E : kx_E) : kx_look 34 (cd_X9_undo E) = t_fun (f2_Jx4a65c_get_915e3 E) 0 0 37 2 := funext fun _ => rfl
theorem lo_X9_undo_37 (E : kx_E) : kx_look 37 (cd_X9_undo E) = t_cst 40 9 := funext fun _ => rfl
theorem lo_X9_undo_40 (E : kx_E) : kx_look 40 (cd_X9_undo E) = t_as 41 1 := funext fun _ => rfl
theorem lo_X9_undo_41 (E : kx_E) : kx_look 41 (cd_X9_undo E) = t_al 42 1 := funext fun _ => rfl
theorem lo_X9_undo_42 (E : kx_E) : kx_look 42 (cd_X9_undo E) = t_gI 45 9 165 := funext fun _ => rfl
theorem lo_X9_undo_45 (E : kx_E) : kx_look 45 (cd_X9_undo E) = t_al 46 0 := funext fun _ => rfl
theorem lo_X9_undo_46 (E : kx_E) : kx_look 46 (cd_X9_undo E) = t_gI 49 11 210 := funext fun _ => rfl
theorem lo_X9_undo_49 (E : kx_E) : kx_look 49 (cd_X9_undo E) = t_ic 52 77 (fun x y => x ≠ y) := funext fun _ => rfl
theorem lo_X9_undo_52 (E : kx_E) : kx_look 52 (cd_X9_undo E) = t_al 53 1 := funext fun _ => rfl
theorem lo_X9_undo_53 (E : kx_E) : kx_look 53 (cd_X9_undo E) = t_gR 56 9 160 := funext fun _ => rfl
theorem lo_X9_undo_56 (E : kx_E) : kx_look 56 (cd_X9_undo E) = t_gI 59 7 129 := funext fun _ => rfl
theorem lo_X9_undo_59 (E : kx_E) : kx_look 59 (cd_X9_undo E) = t_push 60 (.int 3) := funext fun _ => rfl
theorem lo_X9_undo_60 (E : kx_E) : kx_look 60 (cd_X9_undo E) = t_ic 63 77 (fun x y => x = y) := funext fun _ => rfl
theorem lo_X9_undo_63 (E : kx_E) : kx_look 63 (cd_X9_undo E) = t_al 64 1 := funext fun _ => rfl
theorem lo_X9_undo_64 (E : kx_E) : kx_look 64 (cd_X9_undo E) = t_gR 67 9 161 := funext fun _ => rfl
theorem lo_X9_undo_67 (E : kx_E) : kx_look 67 (cd_X9_undo E) = t_gI 70 2 26 := funext fun _ => rfl
theorem lo_X9_undo_70 (E : kx_E) : kx_look 70 (cd_X9_undo E) = t_al 71 1 := funext fun _ => rfl
theorem lo_X9_undo_71 (E : kx_E) : kx_look 71 (cd_X9_undo E) = t_gI 74 9 166 := funext fun _ => rfl
theorem lo_X9_undo_74 (E : kx_E) : kx_look 74 (cd_X9_undo E) = t_ic 77 88 (fun x y => y ≤ x) := funext fun _ => rfl
theorem lo_X9_undo_77 (E : kx_E) : kx_look 77 (cd_X9_undo E) = t_no := funext fun _ => rfl
theorem lo_X9_undo_88 (E : kx_E) : kx_look 88 (cd_X9_undo E) = t_al 89 0 := funext fun _ => rfl
theorem lo_X9_undo_89 (E : kx_E) : kx_look 89 (cd_X9_undo E) = t_gR 92 11 207 := funext fun _ => rfl
theorem lo_X9_undo_92 (E : kx_E) : kx_look 92 (cd_X9_undo E) = t_al 93 0 := funext fun _ => rfl
theorem lo_X9_undo_93 (E : kx_E) : kx_look 93 (cd_X9_undo E) = t_gR 96 11 207 := funext fun _ => rfl
theorem lo_X9_undo_96 (E : kx_E) : kx_look 96 (cd_X9_undo E) = t_fun (f2_Jx4a65c_size_8abf5 E) 0 0 99 1 := funext fun _ => rfl
theorem lo_X9_undo_99 (E : kx_E) : kx_look 99 (cd_X9_undo E) = t_push 100 (.int 1) := funext fun _ => rfl
theorem lo_X9_undo_100 (E : kx_E) : kx_look 100 (cd_X9_undo E) = t_bin 101 (fun x y => x - y) := funext fun _ => rfl
theorem lo_X9_undo_101 (E : kx_E) : kx_look 101 (cd_X9_undo E) = t_fun (f2_Jx4a65c_remove_915e3 E) 0 0 104 2 := funext fun _ => rfl
theorem lo_X9_undo_104 (E : kx_E) : kx_look 104 (cd_X9_undo E) = t_pop 105 := funext fun _ => rfl
theorem lo_X9_undo_105 (E : kx_E) : kx_look 105 (cd_X9_undo E) = t_al 106 0 := funext fun _ => rfl
theorem lo_X9_undo_106 (E : kx_E) : kx_look 106 (cd_X9_undo E) = t_al 107 1 := funext fun _ => rfl
theorem lo_X9_undo_107 (E : kx_E) : kx_look 107 (cd_X9_undo E) = t_call (c2t_X9_takeBack E) 110 2 11 := funext fun _ => rfl
theorem lo_X9_undo_110 (E : kx_E) : kx_look 110 (cd_X9_undo E) = t_al 111 1 := funext fun _ => rfl
theorem lo_X9_undo_111 (E : kx_E) : kx_look 111 (cd_X9_undo E) = t_gI 114 9 163 := funext fun _ => rfl
theorem lo_X9_undo_114 (E : kx_E) : kx_look 114 (cd_X9_undo E) = t_iret := funext fun _ => rfl
theorem lo_X9_clock_0 (E : kx_E) : kx_look 0 (cd_X9_clock E) = t_al 1 0 := funext fun _ => rfl
theorem lo_X9_clock_1 (E : kx_E) : kx_look 1 (cd_X9_clock E) = t_gR 4 11 203 := funext fun _ => rfl
theorem lo_X9_clock_4 (E : kx_E) : kx_look 4 (cd_X9_clock E) = t_fun (f2_Jx4a65c_isEmpty_aae02 E) 0 0 7 1 := funext fun _ => rfl
theorem lo_X9_clock_7 (E : kx_E) : kx_look 7 (cd_X9_clock E) = t_if 10 20 (fun x => x = 0) := funext fun _ => rfl
theorem lo_X9_clock_10 (E : kx_E) : kx_look 10 (cd_X9_clock E) = t_no := funext fun _ => rfl
theorem lo_X9_clock_20 (E : kx_E) : kx_look 20 (cd_X9_clock E) = t_al 21 0 := funext fun _ => rfl
theorem lo_X9_clock_21 (E : kx_E) : kx_look 21 (cd_X9_clock E) = t_gR 24 11 203 := funext fun _ => rfl
theorem lo_X9_clock_24 (E : kx_E) : kx_look 24 (cd_X9_clock E) = t_push 25 (.int 0) := funext fun _ => rfl
theorem lo_X9_clock_25 (E : kx_E) : kx_look 25 (cd_X9_clock E) = t_fun (f2_Jx4a65c_remove_915e3 E) 0 0 28 2 := funext fun _ => rfl
theorem lo_X9_clock_28 (E : kx_E) : kx_look 28 (cd_X9_clock E) = t_cst 31 7 := funext fun _ => rfl
theorem lo_X9_clock_31 (E : kx_E) : kx_look 31 (cd_X9_clock E) = t_as 32 1 := funext fun _ => rfl
theorem lo_X9_clock_32 (E : kx_E) : kx_look 32 (cd_X9_clock E) = t_al 33 1 := funext fun _ => rfl
theorem lo_X9_clock_33 (E : kx_E) : kx_look 33 (cd_X9_clock E) = t_gI 36 7 125 := funext fun _ => rfl
theorem lo_X9_clock_36 (E : kx_E) : kx_look 36 (cd_X9_clock E) = t_is 37 2 := funext fun _ => rfl
theorem lo_X9_clock_37 (E : kx_E) : kx_look 37 (cd_X9_clock E) = t_al 38 0 := funext fun _ => rfl
theorem lo_X9_clock_38 (E : kx_E) : kx_look 38 (cd_X9_clock E) = t_gR 41 11 209 := funext fun _ => rfl
theorem lo_X9_clock_41 (E : kx_E) : kx_look 41 (cd_X9_clock E) = t_al 42 1 := funext fun _ => rfl
theorem lo_X9_clock_42 (E : kx_E) : kx_look 42 (cd_X9_clock E) = t_al 43 1 := funext fun _ => rfl
theorem lo_X9_clock_43 (E : kx_E) : kx_look 43 (cd_X9_clock E) = t_gI 46 7 130 := funext fun _ => rfl
theorem lo_X9_clock_46 (E : kx_E) : kx_look 46 (cd_X9_clock E) = t_al 47 1 := funext fun _ => rfl
theorem lo_X9_clock_47 (E : kx_E) : kx_look 47 (cd_X9_clock E) = t_gI 50 7 131 := funext fun _ => rfl
theorem lo_X9_clock_50 (E : kx_E) : kx_look 50 (cd_X9_clock E) = t_al 51 0 := funext fun _ => rfl
theorem lo_X9_clock_51 (E : kx_E) : kx_look 51 (cd_X9_clock E) = t_gR 54 11 204 := funext fun _ => rfl
theorem lo_X9_clock_54 (E : kx_E) : kx_look 54 (cd_X9_clock E) = t_al 55 0 := funext fun _ => rfl
theorem lo_X9_clock_55 (E : kx_E) : kx_look 55 (cd_X9_clock E) = t_gR 58 11 205 := funext fun _ => rfl
theorem lo_X9_clock_58 (E : kx_E) : kx_look 58 (cd_X9_clock E) = t_fun (f2_X2_begin E) 0 0 61 6 := funext fun _ => rfl
theorem lo_X9_clock_61 (E : kx_E) : kx_look 61 (cd_X9_clock E) = t_al 62 0 := funext fun _ => rfl
theorem lo_X9_clock_62 (E : kx_E) : kx_look 62 (cd_X9_clock E) = t_gR 65 11 209 := funext fun _ => rfl
theorem lo_X9_clock_65 (E : kx_E) : kx_look 65 (cd_X9_clock E) = t_al 66 0 := funext fun _ => rfl
theorem lo_X9_clock_66 (E : kx_E) : kx_look 66 (cd_X9_clock E) = t_gR 69 11 205 := funext fun _ => rfl
theorem lo_X9_clock_69 (E : kx_E) : kx_look 69 (cd_X9_clock E) = t_fun (f2_X2_nextTaker E) 0 0 72 2 := funext fun _ => rfl
theorem lo_X9_clock_72 (E : kx_E) : kx_look 72 (cd_X9_clock E) = t_as 73 3 := funext fun _ => rfl
theorem lo_X9_clock_73 (E : kx_E) : kx_look 73 (cd_X9_clock E) = t_push 74 (.int 0) := funext fun _ => rfl
theorem lo_X9_clock_74 (E : kx_E) : kx_look 74 (cd_X9_clock E) = t_is 76 4 := funext fun _ => rfl
theorem lo_X9_clock_76 (E : kx_E) : kx_look 76 (cd_X9_clock E) = t_il 78 4 := funext fun _ => rfl
theorem lo_X9_clock_78 (E : kx_E) : kx_look 78 (cd_X9_clock E) = t_push 81 (.int 200) := funext fun _ => rfl
theorem lo_X9_clock_81 (E : kx_E) : kx_look 81 (cd_X9_clock E) = t_ic 84 130 (fun x y => y ≤ x) := funext fun _ => rfl
theorem lo_X9_clock_84 (E : kx_E) : kx_look 84 (cd_X9_clock E) = t_al 85 3 := funext fun _ => rfl
theorem lo_X9_clock_85 (E : kx_E) : kx_look 85 (cd_X9_clock E) = t_nul 130 88 := funext fun _ => rfl
theorem lo_X9_clock_88 (E : kx_E) : kx_look 88 (cd_X9_clock E) = t_al 89 0 := funext fun _ => rfl
theorem lo_X9_clock_89 (E : kx_E) : kx_look 89 (cd_X9_clock E) = t_al 90 1 := funext fun _ => rfl
theorem lo_X9_clock_90 (E : kx_E) : kx_look 90 (cd_X9_clock E) = t_al 91 3 := funext fun _ => rfl
theorem lo_X9_clock_91 (E : kx_E) : kx_look 91 (cd_X9_clock E) = t_gR 94 8 140 := funext fun _ => rfl
theorem lo_X9_clock_94 (E : kx_E) : kx_look 94 (cd_X9_clock E) = t_al 95 3 := funext fun _ => rfl
theorem lo_X9_clock_95 (E : kx_E) : kx_look 95 (cd_X9_clock E) = t_al 96 0 := funext fun _ => rfl
theorem lo_X9_clock_96 (E : kx_E) : kx_look 96 (cd_X9_clock E) = t_gR 99 11 209 := funext fun _ => rfl
theorem lo_X9_clock_99 (E : kx_E) : kx_look 99 (cd_X9_clock E) = t_gI 102 4 68 := funext fun _ => rfl
theorem lo_X9_clock_102 (E : kx_E) : kx_look 102 (cd_X9_clock E) = t_al 103 0 := funext fun _ => rfl
theorem lo_X9_clock_103 (E : kx_E) : kx_look 103 (cd_X9_clock E) = t_gR 106 11 209 := funext fun _ => rfl
theorem lo_X9_clock_106 (E : kx_E) : kx_look 106 (cd_X9_clock E) = t_gI 109 4 69 := funext fun _ => rfl
theorem lo_X9_clock_109 (E : kx_E) : kx_look 109 (cd_X9_clock E) = t_call (c2t_X9_sell E) 112 6 11 := funext fun _ => rfl
theorem lo_X9_clock_112 (E : kx_E) : kx_look 112 (cd_X9_clock E) = t_al 113 0 := funext fun _ => rfl
theorem lo_X9_clock_113 (E : kx_E) : kx_look 113 (cd_X9_clock E) = t_gR 116 11 209 := funext fun _ => rfl
theorem lo_X9_clock_116 (E : kx_E) : kx_look 116 (cd_X9_clock E) = t_al 117 0 := funext fun _ => rfl
theorem lo_X9_clock_117 (E : kx_E) : kx_look 117 (cd_X9_clock E) = t_gR 120 11 205 := funext fun _ => rfl
theorem lo_X9_clock_120 (E : kx_E) : kx_look 120 (cd_X9_clock E) = t_fun (f2_X2_nextTaker E) 0 0 123 2 := funext fun _ => rfl
theorem lo_X9_clock_123 (E : kx_E) : kx_look 123 (cd_X9_clock E) = t_as 124 3 := funext fun _ => rfl
theorem lo_X9_clock_124 (E : kx_E) : kx_look 124 (cd_X9_clock E) = t_inc 127 4 1 := funext fun _ => rfl
theorem lo_X9_clock_127 (E : kx_E) : kx_look 127 (cd_X9_clock E) = t_gk 76 5 := funext fun _ => rfl
theorem lo_X9_clock_130 (E : kx_E) : kx_look 130 (cd_X9_clock E) = t_al 131 1 := funext fun _ => rfl
theorem lo_X9_clock_131 (E : kx_E) : kx_look 131 (cd_X9_clock E) = t_gI 134 7 129 := funext fun _ => rfl
theorem lo_X9_clock_134 (E : kx_E) : kx_look 134 (cd_X9_clock E) = t_push 135 (.int 1) := funext fun _ => rfl
theorem lo_X9_clock_135 (E : kx_E) : kx_look 135 (cd_X9_clock E) = t_ic 138 143 (fun x y => x ≠ y) := funext fun _ => rfl
theorem lo_X9_clock_138 (E : kx_E) : kx_look 138 (cd_X9_clock E) = t_al 139 1 := funext fun _ => rfl
theorem lo_X9_clock_139 (E : kx_E) : kx_look 139 (cd_X9_clock E) = t_push 140 (.int 0) := funext fun _ => rfl
theorem lo_X9_clock_140 (E : kx_E) : kx_look 140 (cd_X9_clock E) = t_pI 143 7 129 := funext fun _ => rfl
theorem lo_X9_clock_143 (E : kx_E) : kx_look 143 (cd_X9_clock E) = t_il 144 2 := funext fun _ => rfl
theorem lo_X9_clock_144 (E : kx_E) : kx_look 144 (cd_X9_clock E) = t_al 145 1 := funext fun _ => rfl
theorem lo_X9_clock_145 (E : kx_E) : kx_look 145 (cd_X9_clock E) = t_gI 148 7 125 := funext fun _ => rfl
theorem lo_X9_clock_148 (E : kx_E) : kx_look 148 (cd_X9_clock E) = t_bin 149 (fun x y => x - y) := funext fun _ => rfl
theorem lo_X9_clock_149 (E : kx_E) : kx_look 149 (cd_X9_clock E) = t_iret := funext fun _ => rfl
theorem lo_X9_passOneHour_0 (E : kx_E) : kx_look 0 (cd_X9_passOneHour E) = t_al 1 0 := funext fun _ => rfl
theorem lo_X9_passOneHour_1 (E : kx_E) : kx_look 1 (cd_X9_passOneHour E) = t_dup 2 := funext fun _ => rfl
theorem lo_X9_passOneHour_2 (E : kx_E) : kx_look 2 (cd_X9_passOneHour E) = t_gI 5 11 210 := funext fun _ => rfl
theorem lo_X9_passOneHour_5 (E : kx_E) : kx_look 5 (cd_X9_passOneHour E) = t_push 6 (.int 1) := funext fun _ => rfl
theorem lo_X9_passOneHour_6 (E : kx_E) : kx_look 6 (cd_X9_passOneHour E) = t_bin 7 (fun x y => x + y) := funext fun _ => rfl
theorem lo_X9_passOneHour_7 (E : kx_E) : kx_look 7 (cd_X9_passOneHour E) = t_pI 10 11 210 := funext fun _ => rfl
theorem lo_X9_passOneHour_10 (E : kx_E) : kx_look 10 (cd_X9_passOneHour E) = t_al 11 0 := funext fun _ => rfl
theorem lo_X9_passOneHour_11 (E : kx_E) : kx_look 11 (cd_X9_passOneHour E) = t_gI 14 11 210 := funext fun _ => rfl
theorem lo_X9_passOneHour_14 (E : kx_E) : kx_look 14 (cd_X9_passOneHour E) = t_push 16 (.int 24) := funext fun _ => rfl
theorem lo_X9_passOneHour_16 (E : kx_E) : kx_look 16 (cd_X9_passOneHour E) = t_dv 17 (fun x y => x - x / y * y) := funext fun _ => rfl
theorem lo_X9_passOneHour_17 (E : kx_E) : kx_look 17 (cd_X9_passOneHour E) = t_if 20 24 (fun x => x ≠ 0) := funext fun _ => rfl
theorem lo_X9_passOneHour_20 (E : kx_E) : kx_look 20 (cd_X9_passOneHour E) = t_al 21 0 := funext fun _ => rfl
theorem lo_X9_passOneHour_21 (E : kx_E) : kx_look 21 (cd_X9_passOneHour E) = t_fun (f2_X9_beginDay E) 0 0 24 1 := funext fun _ => rfl
theorem lo_X9_passOneHour_24 (E : kx_E) : kx_look 24 (cd_X9_passOneHour E) = t_al 25 0 := funext fun _ => rfl
theorem lo_X9_passOneHour_25 (E : kx_E) : kx_look 25 (cd_X9_passOneHour E) = t_fun (f2_X9_growCrops E) 0 0 28 1 := funext fun _ => rfl
theorem lo_X9_passOneHour_28 (E : kx_E) : kx_look 28 (cd_X9_passOneHour E) = t_al 29 0 := funext fun _ => rfl
theorem lo_X9_passOneHour_29 (E : kx_E) : kx_look 29 (cd_X9_passOneHour E) = t_fun (f2_X9_payForLamps E) 0 0 32 1 := funext fun _ => rfl
theorem lo_X9_passOneHour_32 (E : kx_E) : kx_look 32 (cd_X9_passOneHour E) = t_al 33 0 := funext fun _ => rfl
theorem lo_X9_passOneHour_33 (E : kx_E) : kx_look 33 (cd_X9_passOneHour E) = t_fun (f2_X9_loseLife E) 0 0 36 1 := funext fun _ => rfl
theorem lo_X9_passOneHour_36 (E : kx_E) : kx_look 36 (cd_X9_passOneHour E) = t_al 37 0 := funext fun _ => rfl
theorem lo_X9_passOneHour_37 (E : kx_E) : kx_look 37 (cd_X9_passOneHour E) = t_fun (f2_X9_runRail E) 0 0 40 1 := funext fun _ => rfl
theorem lo_X9_passOneHour_40 (E : kx_E) : kx_look 40 (cd_X9_passOneHour E) = t_iret := funext fun _ => rfl
