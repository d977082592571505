theorem lo_X9_sell_0 (E : kx_E) : kx_look 0 (cd_X9_sell E) = t_il 2 4 := funext fun _ => rfl
theorem lo_X9_sell_2 (E : kx_E) : kx_look 2 (cd_X9_sell E) = t_fun (f2_X9_bucketsFor E) 0 0 5 1 := funext fun _ => rfl
theorem lo_X9_sell_5 (E : kx_E) : kx_look 5 (cd_X9_sell E) = t_al 6 1 := funext fun _ => rfl
theorem lo_X9_sell_6 (E : kx_E) : kx_look 6 (cd_X9_sell E) = t_gI 9 7 127 := funext fun _ => rfl
theorem lo_X9_sell_9 (E : kx_E) : kx_look 9 (cd_X9_sell E) = t_mm 12 (fun x y => if y < x then y else x) := funext fun _ => rfl
theorem lo_X9_sell_12 (E : kx_E) : kx_look 12 (cd_X9_sell E) = t_is 14 6 := funext fun _ => rfl
theorem lo_X9_sell_14 (E : kx_E) : kx_look 14 (cd_X9_sell E) = t_new 17 9 7 := funext fun _ => rfl
theorem lo_X9_sell_17 (E : kx_E) : kx_look 17 (cd_X9_sell E) = t_dup 18 := funext fun _ => rfl
theorem lo_X9_sell_18 (E : kx_E) : kx_look 18 (cd_X9_sell E) = t_al 19 1 := funext fun _ => rfl
theorem lo_X9_sell_19 (E : kx_E) : kx_look 19 (cd_X9_sell E) = t_al 20 2 := funext fun _ => rfl
theorem lo_X9_sell_20 (E : kx_E) : kx_look 20 (cd_X9_sell E) = t_al 21 3 := funext fun _ => rfl
theorem lo_X9_sell_21 (E : kx_E) : kx_look 21 (cd_X9_sell E) = t_il 23 4 := funext fun _ => rfl
theorem lo_X9_sell_23 (E : kx_E) : kx_look 23 (cd_X9_sell E) = t_il 25 5 := funext fun _ => rfl
theorem lo_X9_sell_25 (E : kx_E) : kx_look 25 (cd_X9_sell E) = t_al 26 0 := funext fun _ => rfl
theorem lo_X9_sell_26 (E : kx_E) : kx_look 26 (cd_X9_sell E) = t_gI 29 11 210 := funext fun _ => rfl
theorem lo_X9_sell_29 (E : kx_E) : kx_look 29 (cd_X9_sell E) = t_il 31 6 := funext fun _ => rfl
theorem lo_X9_sell_31 (E : kx_E) : kx_look 31 (cd_X9_sell E) = t_fun (f2_X7_init E) 0 0 34 8 := funext fun _ => rfl
theorem lo_X9_sell_34 (E : kx_E) : kx_look 34 (cd_X9_sell E) = t_as 36 7 := funext fun _ => rfl
theorem lo_X9_sell_36 (E : kx_E) : kx_look 36 (cd_X9_sell E) = t_al 37 0 := funext fun _ => rfl
theorem lo_X9_sell_37 (E : kx_E) : kx_look 37 (cd_X9_sell E) = t_al 39 7 := funext fun _ => rfl
theorem lo_X9_sell_39 (E : kx_E) : kx_look 39 (cd_X9_sell E) = t_push 40 (.int 1) := funext fun _ => rfl
theorem lo_X9_sell_40 (E : kx_E) : kx_look 40 (cd_X9_sell E) = t_call (c2t_X9_book E) 43 3 11 := funext fun _ => rfl
theorem lo_X9_sell_43 (E : kx_E) : kx_look 43 (cd_X9_sell E) = t_al 44 1 := funext fun _ => rfl
theorem lo_X9_sell_44 (E : kx_E) : kx_look 44 (cd_X9_sell E) = t_gI 47 7 125 := funext fun _ => rfl
theorem lo_X9_sell_47 (E : kx_E) : kx_look 47 (cd_X9_sell E) = t_push 48 (.int 1) := funext fun _ => rfl
theorem lo_X9_sell_48 (E : kx_E) : kx_look 48 (cd_X9_sell E) = t_ic 51 56 (fun x y => y ≤ x) := funext fun _ => rfl
theorem lo_X9_sell_51 (E : kx_E) : kx_look 51 (cd_X9_sell E) = t_al 52 1 := funext fun _ => rfl
theorem lo_X9_sell_52 (E : kx_E) : kx_look 52 (cd_X9_sell E) = t_push 53 (.int 2) := funext fun _ => rfl
theorem lo_X9_sell_53 (E : kx_E) : kx_look 53 (cd_X9_sell E) = t_pI 56 7 129 := funext fun _ => rfl
theorem lo_X9_sell_56 (E : kx_E) : kx_look 56 (cd_X9_sell E) = t_al 57 0 := funext fun _ => rfl
theorem lo_X9_sell_57 (E : kx_E) : kx_look 57 (cd_X9_sell E) = t_gR 60 11 206 := funext fun _ => rfl
theorem lo_X9_sell_60 (E : kx_E) : kx_look 60 (cd_X9_sell E) = t_new 63 10 4 := funext fun _ => rfl
theorem lo_X9_sell_63 (E : kx_E) : kx_look 63 (cd_X9_sell E) = t_dup 64 := funext fun _ => rfl
theorem lo_X9_sell_64 (E : kx_E) : kx_look 64 (cd_X9_sell E) = t_al 65 2 := funext fun _ => rfl
theorem lo_X9_sell_65 (E : kx_E) : kx_look 65 (cd_X9_sell E) = t_al 66 1 := funext fun _ => rfl
theorem lo_X9_sell_66 (E : kx_E) : kx_look 66 (cd_X9_sell E) = t_gI 69 7 123 := funext fun _ => rfl
theorem lo_X9_sell_69 (E : kx_E) : kx_look 69 (cd_X9_sell E) = t_il 71 4 := funext fun _ => rfl
theorem lo_X9_sell_71 (E : kx_E) : kx_look 71 (cd_X9_sell E) = t_al 72 1 := funext fun _ => rfl
theorem lo_X9_sell_72 (E : kx_E) : kx_look 72 (cd_X9_sell E) = t_gI 75 7 126 := funext fun _ => rfl
theorem lo_X9_sell_75 (E : kx_E) : kx_look 75 (cd_X9_sell E) = t_fun (f2_X8_init E) 0 0 78 5 := funext fun _ => rfl
theorem lo_X9_sell_78 (E : kx_E) : kx_look 78 (cd_X9_sell E) = t_fun (f2_Jx4a65c_add_9ea2d E) 1 1500 81 2 := funext fun _ => rfl
theorem lo_X9_sell_81 (E : kx_E) : kx_look 81 (cd_X9_sell E) = t_pop 82 := funext fun _ => rfl
theorem lo_X9_sell_82 (E : kx_E) : kx_look 82 (cd_X9_sell E) = t_al 83 0 := funext fun _ => rfl
theorem lo_X9_sell_83 (E : kx_E) : kx_look 83 (cd_X9_sell E) = t_gR 86 11 207 := funext fun _ => rfl
theorem lo_X9_sell_86 (E : kx_E) : kx_look 86 (cd_X9_sell E) = t_fun (f2_Jx4a65c_size_8abf5 E) 0 0 89 1 := funext fun _ => rfl
theorem lo_X9_sell_89 (E : kx_E) : kx_look 89 (cd_X9_sell E) = t_push 91 (.int 20) := funext fun _ => rfl
theorem lo_X9_sell_91 (E : kx_E) : kx_look 91 (cd_X9_sell E) = t_ic 94 103 (fun x y => x < y) := funext fun _ => rfl
theorem lo_X9_sell_94 (E : kx_E) : kx_look 94 (cd_X9_sell E) = t_al 95 0 := funext fun _ => rfl
theorem lo_X9_sell_95 (E : kx_E) : kx_look 95 (cd_X9_sell E) = t_gR 98 11 207 := funext fun _ => rfl
theorem lo_X9_sell_98 (E : kx_E) : kx_look 98 (cd_X9_sell E) = t_push 99 (.int 0) := funext fun _ => rfl
theorem lo_X9_sell_99 (E : kx_E) : kx_look 99 (cd_X9_sell E) = t_fun (f2_Jx4a65c_remove_915e3 E) 0 0 102 2 := funext fun _ => rfl
theorem lo_X9_sell_102 (E : kx_E) : kx_look 102 (cd_X9_sell E) = t_pop 103 := funext fun _ => rfl
theorem lo_X9_sell_103 (E : kx_E) : kx_look 103 (cd_X9_sell E) = t_al 104 0 := funext fun _ => rfl
theorem lo_X9_sell_104 (E : kx_E) : kx_look 104 (cd_X9_sell E) = t_gR 107 11 207 := funext fun _ => rfl
theorem lo_X9_sell_107 (E : kx_E) : kx_look 107 (cd_X9_sell E) = t_al 109 7 := funext fun _ => rfl
theorem lo_X9_sell_109 (E : kx_E) : kx_look 109 (cd_X9_sell E) = t_fun (f2_Jx4a65c_add_9ea2d E) 1 1500 112 2 := funext fun _ => rfl
theorem lo_X9_sell_112 (E : kx_E) : kx_look 112 (cd_X9_sell E) = t_pop 113 := funext fun _ => rfl
theorem lo_X9_sell_113 (E : kx_E) : kx_look 113 (cd_X9_sell E) = t_vret := funext fun _ => rfl
theorem lo_X9_takeBack_0 (E : kx_E) : kx_look 0 (cd_X9_takeBack E) = t_al 1 0 := funext fun _ => rfl
theorem lo_X9_takeBack_1 (E : kx_E) : kx_look 1 (cd_X9_takeBack E) = t_al 2 1 := funext fun _ => rfl
theorem lo_X9_takeBack_2 (E : kx_E) : kx_look 2 (cd_X9_takeBack E) = t_push 3 (.int (-1)) := funext fun _ => rfl
theorem lo_X9_takeBack_3 (E : kx_E) : kx_look 3 (cd_X9_takeBack E) = t_call (c2t_X9_book E) 6 3 11 := funext fun _ => rfl
theorem lo_X9_takeBack_6 (E : kx_E) : kx_look 6 (cd_X9_takeBack E) = t_al 7 1 := funext fun _ => rfl
theorem lo_X9_takeBack_7 (E : kx_E) : kx_look 7 (cd_X9_takeBack E) = t_gR 10 9 160 := funext fun _ => rfl
theorem lo_X9_takeBack_10 (E : kx_E) : kx_look 10 (cd_X9_takeBack E) = t_gI 13 7 129 := funext fun _ => rfl
theorem lo_X9_takeBack_13 (E : kx_E) : kx_look 13 (cd_X9_takeBack E) = t_push 14 (.int 2) := funext fun _ => rfl
theorem lo_X9_takeBack_14 (E : kx_E) : kx_look 14 (cd_X9_takeBack E) = t_ic 17 25 (fun x y => x ≠ y) := funext fun _ => rfl
theorem lo_X9_takeBack_17 (E : kx_E) : kx_look 17 (cd_X9_takeBack E) = t_al 18 1 := funext fun _ => rfl
theorem lo_X9_takeBack_18 (E : kx_E) : kx_look 18 (cd_X9_takeBack E) = t_gR 21 9 160 := funext fun _ => rfl
theorem lo_X9_takeBack_21 (E : kx_E) : kx_look 21 (cd_X9_takeBack E) = t_push 22 (.int 0) := funext fun _ => rfl
theorem lo_X9_takeBack_22 (E : kx_E) : kx_look 22 (cd_X9_takeBack E) = t_pI 25 7 129 := funext fun _ => rfl
theorem lo_X9_takeBack_25 (E : kx_E) : kx_look 25 (cd_X9_takeBack E) = t_al 26 0 := funext fun _ => rfl
theorem lo_X9_takeBack_26 (E : kx_E) : kx_look 26 (cd_X9_takeBack E) = t_gR 29 11 206 := funext fun _ => rfl
theorem lo_X9_takeBack_29 (E : kx_E) : kx_look 29 (cd_X9_takeBack E) = t_fun (f2_Jx4a65c_isEmpty_aae02 E) 0 0 32 1 := funext fun _ => rfl
theorem lo_X9_takeBack_32 (E : kx_E) : kx_look 32 (cd_X9_takeBack E) = t_if 35 52 (fun x => x ≠ 0) := funext fun _ => rfl
theorem lo_X9_takeBack_35 (E : kx_E) : kx_look 35 (cd_X9_takeBack E) = t_al 36 0 := funext fun _ => rfl
theorem lo_X9_takeBack_36 (E : kx_E) : kx_look 36 (cd_X9_takeBack E) = t_gR 39 11 206 := funext fun _ => rfl
theorem lo_X9_takeBack_39 (E : kx_E) : kx_look 39 (cd_X9_takeBack E) = t_al 40 0 := funext fun _ => rfl
theorem lo_X9_takeBack_40 (E : kx_E) : kx_look 40 (cd_X9_takeBack E) = t_gR 43 11 206 := funext fun _ => rfl
theorem lo_X9_takeBack_43 (E : kx_E) : kx_look 43 (cd_X9_takeBack E) = t_fun (f2_Jx4a65c_size_8abf5 E) 0 0 46 1 := funext fun _ => rfl
theorem lo_X9_takeBack_46 (E : kx_E) : kx_look 46 (cd_X9_takeBack E) = t_push 47 (.int 1) := funext fun _ => rfl
theorem lo_X9_takeBack_47 (E : kx_E) : kx_look 47 (cd_X9_takeBack E) = t_bin 48 (fun x y => x - y) := funext fun _ => rfl
theorem lo_X9_takeBack_48 (E : kx_E) : kx_look 48 (cd_X9_takeBack E) = t_fun (f2_Jx4a65c_remove_915e3 E) 0 0 51 2 := funext fun _ => rfl
theorem lo_X9_takeBack_51 (E : kx_E) : kx_look 51 (cd_X9_takeBack E) = t_pop 52 := funext fun _ => rfl
theorem lo_X9_takeBack_52 (E : kx_E) : kx_look 52 (cd_X9_takeBack E) = t_vret := funext fun _ => rfl
theorem lo_X9_bind_0 (E : kx_E) : kx_look 0 (cd_X9_bind E) = t_al 1 0 := funext fun _ => rfl
theorem lo_X9_bind_1 (E : kx_E) : kx_look 1 (cd_X9_bind E) = t_il 2 1 := funext fun _ => rfl
theorem lo_X9_bind_2 (E : kx_E) : kx_look 2 (cd_X9_bind E) = t_fun (f2_X9_buyerAt E) 0 0 5 2 := funext fun _ => rfl
theorem lo_X9_bind_5 (E : kx_E) : kx_look 5 (cd_X9_bind E) = t_as 6 3 := funext fun _ => rfl
theorem lo_X9_bind_6 (E : kx_E) : kx_look 6 (cd_X9_bind E) = t_il 7 2 := funext fun _ => rfl
theorem lo_X9_bind_7 (E : kx_E) : kx_look 7 (cd_X9_bind E) = t_push 8 (.int 1) := funext fun _ => rfl
theorem lo_X9_bind_8 (E : kx_E) : kx_look 8 (cd_X9_bind E) = t_push 10 (.int 99) := funext fun _ => rfl
theorem lo_X9_bind_10 (E : kx_E) : kx_look 10 (cd_X9_bind E) = t_fun (f2_X9_isWithin E) 0 0 13 3 := funext fun _ => rfl
theorem lo_X9_bind_13 (E : kx_E) : kx_look 13 (cd_X9_bind E) = t_if 16 27 (fun x => x ≠ 0) := funext fun _ => rfl
theorem lo_X9_bind_16 (E : kx_E) : kx_look 16 (cd_X9_bind E) = t_no := funext fun _ => rfl
theorem lo_X9_bind_27 (E : kx_E) : kx_look 27 (cd_X9_bind E) = t_push 28 (.int 0) := funext fun _ => rfl
theorem lo_X9_bind_28 (E : kx_E) : kx_look 28 (cd_X9_bind E) = t_is 30 4 := funext fun _ => rfl
theorem lo_X9_bind_30 (E : kx_E) : kx_look 30 (cd_X9_bind E) = t_il 32 4 := funext fun _ => rfl
theorem lo_X9_bind_32 (E : kx_E) : kx_look 32 (cd_X9_bind E) = t_il 33 2 := funext fun _ => rfl
theorem lo_X9_bind_33 (E : kx_E) : kx_look 33 (cd_X9_bind E) = t_ic 36 52 (fun x y => y ≤ x) := funext fun _ => rfl
theorem lo_X9_bind_36 (E : kx_E) : kx_look 36 (cd_X9_bind E) = t_al 37 3 := funext fun _ => rfl
theorem lo_X9_bind_37 (E : kx_E) : kx_look 37 (cd_X9_bind E) = t_gR 40 2 22 := funext fun _ => rfl
theorem lo_X9_bind_40 (E : kx_E) : kx_look 40 (cd_X9_bind E) = t_fun (f2_X9_bindsOne E) 0 0 43 1 := funext fun _ => rfl
theorem lo_X9_bind_43 (E : kx_E) : kx_look 43 (cd_X9_bind E) = t_if 46 52 (fun x => x = 0) := funext fun _ => rfl
theorem lo_X9_bind_46 (E : kx_E) : kx_look 46 (cd_X9_bind E) = t_inc 49 4 1 := funext fun _ => rfl
theorem lo_X9_bind_49 (E : kx_E) : kx_look 49 (cd_X9_bind E) = t_gk 30 5 := funext fun _ => rfl
theorem lo_X9_bind_52 (E : kx_E) : kx_look 52 (cd_X9_bind E) = t_al 53 3 := funext fun _ => rfl
theorem lo_X9_bind_53 (E : kx_E) : kx_look 53 (cd_X9_bind E) = t_dup 54 := funext fun _ => rfl
theorem lo_X9_bind_54 (E : kx_E) : kx_look 54 (cd_X9_bind E) = t_gI 57 2 27 := funext fun _ => rfl
theorem lo_X9_bind_57 (E : kx_E) : kx_look 57 (cd_X9_bind E) = t_il 59 4 := funext fun _ => rfl
theorem lo_X9_bind_59 (E : kx_E) : kx_look 59 (cd_X9_bind E) = t_bin 60 (fun x y => x + y) := funext fun _ => rfl
theorem lo_X9_bind_60 (E : kx_E) : kx_look 60 (cd_X9_bind E) = t_pI 63 2 27 := funext fun _ => rfl
theorem lo_X9_bind_63 (E : kx_E) : kx_look 63 (cd_X9_bind E) = t_il 65 4 := funext fun _ => rfl
theorem lo_X9_bind_65 (E : kx_E) : kx_look 65 (cd_X9_bind E) = t_iret := funext fun _ => rfl
theorem lo_X9_runRail_0 (E : kx_E) : kx_look 0 (cd_X9_runRail E) = t_push 1 (.int 0) := funext fun _ => rfl
theorem lo_X9_runRail_1 (E : kx_E) : kx_look 1 (cd_X9_runRail E) = t_is 2 1 := funext fun _ => rfl
theorem lo_X9_runRail_2 (E : kx_E) : kx_look 2 (cd_X9_runRail E) = t_il 3 1 := funext fun _ => rfl
theorem lo_X9_runRail_3 (E : kx_E) : kx_look 3 (cd_X9_runRail E) = t_al 4 0 := funext fun _ => rfl
theorem lo_X9_runRail_4 (E : kx_E) : kx_look 4 (cd_X9_runRail E) = t_gI 7 11 213 := funext fun _ => rfl
theorem lo_X9_runRail_7 (E : kx_E) : kx_look 7 (cd_X9_runRail E) = t_ic 10 44 (fun x y => y ≤ x) := funext fun _ => rfl
theorem lo_X9_runRail_10 (E : kx_E) : kx_look 10 (cd_X9_runRail E) = t_al 11 0 := funext fun _ => rfl
theorem lo_X9_runRail_11 (E : kx_E) : kx_look 11 (cd_X9_runRail E) = t_gR 14 11 206 := funext fun _ => rfl
theorem lo_X9_runRail_14 (E : kx_E) : kx_look 14 (cd_X9_runRail E) = t_fun (f2_Jx4a65c_isEmpty_aae02 E) 0 0 17 1 := funext fun _ => rfl
theorem lo_X9_runRail_17 (E : kx_E) : kx_look 17 (cd_X9_runRail E) = t_if 20 44 (fun x => x ≠ 0) := funext fun _ => rfl
theorem lo_X9_runRail_20 (E : kx_E) : kx_look 20 (cd_X9_runRail E) = t_al 21 0 := funext fun _ => rfl
theorem lo_X9_runRail_21 (E : kx_E) : kx_look 21 (cd_X9_runRail E) = t_al 22 0 := funext fun _ => rfl
theorem lo_X9_runRail_22 (E : kx_E) : kx_look 22 (cd_X9_runRail E) = t_gR 25 11 206 := funext fun _ => rfl
theorem lo_X9_runRail_25 (E : kx_E) : kx_look 25 (cd_X9_runRail E) = t_al 26 0 := funext fun _ => rfl
theorem lo_X9_runRail_26 (E : kx_E) : kx_look 26 (cd_X9_runRail E) = t_fun (f2_X9_nextOnRail E) 0 0 29 1 := funext fun _ => rfl
theorem lo_X9_runRail_29 (E : kx_E) : kx_look 29 (cd_X9_runRail E) = t_fun (f2_Jx4a65c_remove_915e3 E) 0 0 32 2 := funext fun _ => rfl
theorem lo_X9_runRail_32 (E : kx_E) : kx_look 32 (cd_X9_runRail E) = t_cst 35 10 := funext fun _ => rfl
theorem lo_X9_runRail_35 (E : kx_E) : kx_look 35 (cd_X9_runRail E) = t_fun (f2_X9_unload E) 0 0 38 2 := funext fun _ => rfl
theorem lo_X9_runRail_38 (E : kx_E) : kx_look 38 (cd_X9_runRail E) = t_inc 41 1 1 := funext fun _ => rfl
theorem lo_X9_runRail_41 (E : kx_E) : kx_look 41 (cd_X9_runRail E) = t_gk 2 2 := funext fun _ => rfl
theorem lo_X9_runRail_44 (E : kx_E) : kx_look 44 (cd_X9_runRail E) = t_il 45 1 := funext fun _ => rfl
theorem lo_X9_runRail_45 (E : kx_E) : kx_look 45 (cd_X9_runRail E) = t_iret := funext fun _ => rfl
