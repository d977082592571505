theorem lo_X9_beginDay_0 (E : kx_E) : kx_look 0 (cd_X9_beginDay E) = t_push 1 (.int 0) := funext fun _ => rfl
theorem lo_X9_beginDay_1 (E : kx_E) : kx_look 1 (cd_X9_beginDay E) = t_is 2 1 := funext fun _ => rfl
theorem lo_X9_beginDay_2 (E : kx_E) : kx_look 2 (cd_X9_beginDay E) = t_il 3 1 := funext fun _ => rfl
theorem lo_X9_beginDay_3 (E : kx_E) : kx_look 3 (cd_X9_beginDay E) = t_al 4 0 := funext fun _ => rfl
theorem lo_X9_beginDay_4 (E : kx_E) : kx_look 4 (cd_X9_beginDay E) = t_gR 7 11 200 := funext fun _ => rfl
theorem lo_X9_beginDay_7 (E : kx_E) : kx_look 7 (cd_X9_beginDay E) = t_fun (f2_Jx4a65c_size_8abf5 E) 0 0 10 1 := funext fun _ => rfl
theorem lo_X9_beginDay_10 (E : kx_E) : kx_look 10 (cd_X9_beginDay E) = t_ic 13 37 (fun x y => y ≤ x) := funext fun _ => rfl
theorem lo_X9_beginDay_13 (E : kx_E) : kx_look 13 (cd_X9_beginDay E) = t_al 14 0 := funext fun _ => rfl
theorem lo_X9_beginDay_14 (E : kx_E) : kx_look 14 (cd_X9_beginDay E) = t_gR 17 11 200 := funext fun _ => rfl
theorem lo_X9_beginDay_17 (E : kx_E) : kx_look 17 (cd_X9_beginDay E) = t_il 18 1 := funext fun _ => rfl
theorem lo_X9_beginDay_18 (E : kx_E) : kx_look 18 (cd_X9_beginDay E) = t_fun (f2_Jx4a65c_get_915e3 E) 0 0 21 2 := funext fun _ => rfl
theorem lo_X9_beginDay_21 (E : kx_E) : kx_look 21 (cd_X9_beginDay E) = t_cst 24 6 := funext fun _ => rfl
theorem lo_X9_beginDay_24 (E : kx_E) : kx_look 24 (cd_X9_beginDay E) = t_gR 27 6 100 := funext fun _ => rfl
theorem lo_X9_beginDay_27 (E : kx_E) : kx_look 27 (cd_X9_beginDay E) = t_push 28 (.int 0) := funext fun _ => rfl
theorem lo_X9_beginDay_28 (E : kx_E) : kx_look 28 (cd_X9_beginDay E) = t_fun (f2_X1_putAll E) 0 0 31 2 := funext fun _ => rfl
theorem lo_X9_beginDay_31 (E : kx_E) : kx_look 31 (cd_X9_beginDay E) = t_inc 34 1 1 := funext fun _ => rfl
theorem lo_X9_beginDay_34 (E : kx_E) : kx_look 34 (cd_X9_beginDay E) = t_gk 2 2 := funext fun _ => rfl
theorem lo_X9_beginDay_37 (E : kx_E) : kx_look 37 (cd_X9_beginDay E) = t_vret := funext fun _ => rfl
theorem lo_X9_growCrops_0 (E : kx_E) : kx_look 0 (cd_X9_growCrops E) = t_push 1 (.int 0) := funext fun _ => rfl
theorem lo_X9_growCrops_1 (E : kx_E) : kx_look 1 (cd_X9_growCrops E) = t_is 2 1 := funext fun _ => rfl
theorem lo_X9_growCrops_2 (E : kx_E) : kx_look 2 (cd_X9_growCrops E) = t_il 3 1 := funext fun _ => rfl
theorem lo_X9_growCrops_3 (E : kx_E) : kx_look 3 (cd_X9_growCrops E) = t_al 4 0 := funext fun _ => rfl
theorem lo_X9_growCrops_4 (E : kx_E) : kx_look 4 (cd_X9_growCrops E) = t_gR 7 11 201 := funext fun _ => rfl
theorem lo_X9_growCrops_7 (E : kx_E) : kx_look 7 (cd_X9_growCrops E) = t_fun (f2_Jx4a65c_size_8abf5 E) 0 0 10 1 := funext fun _ => rfl
theorem lo_X9_growCrops_10 (E : kx_E) : kx_look 10 (cd_X9_growCrops E) = t_ic 13 47 (fun x y => y ≤ x) := funext fun _ => rfl
theorem lo_X9_growCrops_13 (E : kx_E) : kx_look 13 (cd_X9_growCrops E) = t_al 14 0 := funext fun _ => rfl
theorem lo_X9_growCrops_14 (E : kx_E) : kx_look 14 (cd_X9_growCrops E) = t_gR 17 11 201 := funext fun _ => rfl
theorem lo_X9_growCrops_17 (E : kx_E) : kx_look 17 (cd_X9_growCrops E) = t_il 18 1 := funext fun _ => rfl
theorem lo_X9_growCrops_18 (E : kx_E) : kx_look 18 (cd_X9_growCrops E) = t_fun (f2_Jx4a65c_get_915e3 E) 0 0 21 2 := funext fun _ => rfl
theorem lo_X9_growCrops_21 (E : kx_E) : kx_look 21 (cd_X9_growCrops E) = t_cst 24 5 := funext fun _ => rfl
theorem lo_X9_growCrops_24 (E : kx_E) : kx_look 24 (cd_X9_growCrops E) = t_as 25 2 := funext fun _ => rfl
theorem lo_X9_growCrops_25 (E : kx_E) : kx_look 25 (cd_X9_growCrops E) = t_al 26 2 := funext fun _ => rfl
theorem lo_X9_growCrops_26 (E : kx_E) : kx_look 26 (cd_X9_growCrops E) = t_al 27 0 := funext fun _ => rfl
theorem lo_X9_growCrops_27 (E : kx_E) : kx_look 27 (cd_X9_growCrops E) = t_gI 30 11 211 := funext fun _ => rfl
theorem lo_X9_growCrops_30 (E : kx_E) : kx_look 30 (cd_X9_growCrops E) = t_al 31 2 := funext fun _ => rfl
theorem lo_X9_growCrops_31 (E : kx_E) : kx_look 31 (cd_X9_growCrops E) = t_gR 34 5 80 := funext fun _ => rfl
theorem lo_X9_growCrops_34 (E : kx_E) : kx_look 34 (cd_X9_growCrops E) = t_gI 37 6 102 := funext fun _ => rfl
theorem lo_X9_growCrops_37 (E : kx_E) : kx_look 37 (cd_X9_growCrops E) = t_bin 38 (fun x y => x + y) := funext fun _ => rfl
theorem lo_X9_growCrops_38 (E : kx_E) : kx_look 38 (cd_X9_growCrops E) = t_fun (f2_X3_growBy E) 0 0 41 2 := funext fun _ => rfl
theorem lo_X9_growCrops_41 (E : kx_E) : kx_look 41 (cd_X9_growCrops E) = t_inc 44 1 1 := funext fun _ => rfl
theorem lo_X9_growCrops_44 (E : kx_E) : kx_look 44 (cd_X9_growCrops E) = t_gk 2 2 := funext fun _ => rfl
theorem lo_X9_growCrops_47 (E : kx_E) : kx_look 47 (cd_X9_growCrops E) = t_vret := funext fun _ => rfl
theorem lo_X9_payForLamps_0 (E : kx_E) : kx_look 0 (cd_X9_payForLamps E) = t_push 1 (.int 0) := funext fun _ => rfl
theorem lo_X9_payForLamps_1 (E : kx_E) : kx_look 1 (cd_X9_payForLamps E) = t_is 2 1 := funext fun _ => rfl
theorem lo_X9_payForLamps_2 (E : kx_E) : kx_look 2 (cd_X9_payForLamps E) = t_il 3 1 := funext fun _ => rfl
theorem lo_X9_payForLamps_3 (E : kx_E) : kx_look 3 (cd_X9_payForLamps E) = t_al 4 0 := funext fun _ => rfl
theorem lo_X9_payForLamps_4 (E : kx_E) : kx_look 4 (cd_X9_payForLamps E) = t_gR 7 11 200 := funext fun _ => rfl
theorem lo_X9_payForLamps_7 (E : kx_E) : kx_look 7 (cd_X9_payForLamps E) = t_fun (f2_Jx4a65c_size_8abf5 E) 0 0 10 1 := funext fun _ => rfl
theorem lo_X9_payForLamps_10 (E : kx_E) : kx_look 10 (cd_X9_payForLamps E) = t_ic 13 44 (fun x y => y ≤ x) := funext fun _ => rfl
theorem lo_X9_payForLamps_13 (E : kx_E) : kx_look 13 (cd_X9_payForLamps E) = t_al 14 0 := funext fun _ => rfl
theorem lo_X9_payForLamps_14 (E : kx_E) : kx_look 14 (cd_X9_payForLamps E) = t_gR 17 11 200 := funext fun _ => rfl
theorem lo_X9_payForLamps_17 (E : kx_E) : kx_look 17 (cd_X9_payForLamps E) = t_il 18 1 := funext fun _ => rfl
theorem lo_X9_payForLamps_18 (E : kx_E) : kx_look 18 (cd_X9_payForLamps E) = t_fun (f2_Jx4a65c_get_915e3 E) 0 0 21 2 := funext fun _ => rfl
theorem lo_X9_payForLamps_21 (E : kx_E) : kx_look 21 (cd_X9_payForLamps E) = t_cst 24 6 := funext fun _ => rfl
theorem lo_X9_payForLamps_24 (E : kx_E) : kx_look 24 (cd_X9_payForLamps E) = t_as 25 2 := funext fun _ => rfl
theorem lo_X9_payForLamps_25 (E : kx_E) : kx_look 25 (cd_X9_payForLamps E) = t_al 26 2 := funext fun _ => rfl
theorem lo_X9_payForLamps_26 (E : kx_E) : kx_look 26 (cd_X9_payForLamps E) = t_dup 27 := funext fun _ => rfl
theorem lo_X9_payForLamps_27 (E : kx_E) : kx_look 27 (cd_X9_payForLamps E) = t_gI 30 6 101 := funext fun _ => rfl
theorem lo_X9_payForLamps_30 (E : kx_E) : kx_look 30 (cd_X9_payForLamps E) = t_al 31 2 := funext fun _ => rfl
theorem lo_X9_payForLamps_31 (E : kx_E) : kx_look 31 (cd_X9_payForLamps E) = t_gI 34 6 102 := funext fun _ => rfl
theorem lo_X9_payForLamps_34 (E : kx_E) : kx_look 34 (cd_X9_payForLamps E) = t_bin 35 (fun x y => x - y) := funext fun _ => rfl
theorem lo_X9_payForLamps_35 (E : kx_E) : kx_look 35 (cd_X9_payForLamps E) = t_pI 38 6 101 := funext fun _ => rfl
theorem lo_X9_payForLamps_38 (E : kx_E) : kx_look 38 (cd_X9_payForLamps E) = t_inc 41 1 1 := funext fun _ => rfl
theorem lo_X9_payForLamps_41 (E : kx_E) : kx_look 41 (cd_X9_payForLamps E) = t_gk 2 2 := funext fun _ => rfl
theorem lo_X9_payForLamps_44 (E : kx_E) : kx_look 44 (cd_X9_payForLamps E) = t_vret := funext fun _ => rfl
theorem lo_X9_loseLife_0 (E : kx_E) : kx_look 0 (cd_X9_loseLife E) = t_push 1 (.int 0) := funext fun _ => rfl
theorem lo_X9_loseLife_1 (E : kx_E) : kx_look 1 (cd_X9_loseLife E) = t_is 2 1 := funext fun _ => rfl
theorem lo_X9_loseLife_2 (E : kx_E) : kx_look 2 (cd_X9_loseLife E) = t_il 3 1 := funext fun _ => rfl
theorem lo_X9_loseLife_3 (E : kx_E) : kx_look 3 (cd_X9_loseLife E) = t_al 4 0 := funext fun _ => rfl
theorem lo_X9_loseLife_4 (E : kx_E) : kx_look 4 (cd_X9_loseLife E) = t_gR 7 11 202 := funext fun _ => rfl
theorem lo_X9_loseLife_7 (E : kx_E) : kx_look 7 (cd_X9_loseLife E) = t_fun (f2_Jx4a65c_size_8abf5 E) 0 0 10 1 := funext fun _ => rfl
theorem lo_X9_loseLife_10 (E : kx_E) : kx_look 10 (cd_X9_loseLife E) = t_ic 13 58 (fun x y => y ≤ x) := funext fun _ => rfl
theorem lo_X9_loseLife_13 (E : kx_E) : kx_look 13 (cd_X9_loseLife E) = t_al 14 0 := funext fun _ => rfl
theorem lo_X9_loseLife_14 (E : kx_E) : kx_look 14 (cd_X9_loseLife E) = t_gR 17 11 202 := funext fun _ => rfl
theorem lo_X9_loseLife_17 (E : kx_E) : kx_look 17 (cd_X9_loseLife E) = t_il 18 1 := funext fun _ => rfl
theorem lo_X9_loseLife_18 (E : kx_E) : kx_look 18 (cd_X9_loseLife E) = t_fun (f2_Jx4a65c_get_915e3 E) 0 0 21 2 := funext fun _ => rfl
theorem lo_X9_loseLife_21 (E : kx_E) : kx_look 21 (cd_X9_loseLife E) = t_cst 24 7 := funext fun _ => rfl
theorem lo_X9_loseLife_24 (E : kx_E) : kx_look 24 (cd_X9_loseLife E) = t_as 25 2 := funext fun _ => rfl
theorem lo_X9_loseLife_25 (E : kx_E) : kx_look 25 (cd_X9_loseLife E) = t_al 26 2 := funext fun _ => rfl
theorem lo_X9_loseLife_26 (E : kx_E) : kx_look 26 (cd_X9_loseLife E) = t_gI 29 7 125 := funext fun _ => rfl
theorem lo_X9_loseLife_29 (E : kx_E) : kx_look 29 (cd_X9_loseLife E) = t_if 32 52 (fun x => x ≤ 0) := funext fun _ => rfl
theorem lo_X9_loseLife_32 (E : kx_E) : kx_look 32 (cd_X9_loseLife E) = t_al 33 2 := funext fun _ => rfl
theorem lo_X9_loseLife_33 (E : kx_E) : kx_look 33 (cd_X9_loseLife E) = t_push 34 (.int 0) := funext fun _ => rfl
theorem lo_X9_loseLife_34 (E : kx_E) : kx_look 34 (cd_X9_loseLife E) = t_al 35 2 := funext fun _ => rfl
theorem lo_X9_loseLife_35 (E : kx_E) : kx_look 35 (cd_X9_loseLife E) = t_gI 38 7 126 := funext fun _ => rfl
theorem lo_X9_loseLife_38 (E : kx_E) : kx_look 38 (cd_X9_loseLife E) = t_al 39 2 := funext fun _ => rfl
theorem lo_X9_loseLife_39 (E : kx_E) : kx_look 39 (cd_X9_loseLife E) = t_gI 42 7 128 := funext fun _ => rfl
theorem lo_X9_loseLife_42 (E : kx_E) : kx_look 42 (cd_X9_loseLife E) = t_fun (f2_X9_lifeLostIn E) 0 0 45 1 := funext fun _ => rfl
theorem lo_X9_loseLife_45 (E : kx_E) : kx_look 45 (cd_X9_loseLife E) = t_bin 46 (fun x y => x - y) := funext fun _ => rfl
theorem lo_X9_loseLife_46 (E : kx_E) : kx_look 46 (cd_X9_loseLife E) = t_mm 49 (fun x y => if x < y then y else x) := funext fun _ => rfl
theorem lo_X9_loseLife_49 (E : kx_E) : kx_look 49 (cd_X9_loseLife E) = t_pI 52 7 126 := funext fun _ => rfl
theorem lo_X9_loseLife_52 (E : kx_E) : kx_look 52 (cd_X9_loseLife E) = t_inc 55 1 1 := funext fun _ => rfl
theorem lo_X9_loseLife_55 (E : kx_E) : kx_look 55 (cd_X9_loseLife E) = t_gk 2 2 := funext fun _ => rfl
theorem lo_X9_loseLife_58 (E : kx_E) : kx_look 58 (cd_X9_loseLife E) = t_push 59 (.int 0) := funext fun _ => rfl
theorem lo_X9_loseLife_59 (E : kx_E) : kx_look 59 (cd_X9_loseLife E) = t_is 60 1 := funext fun _ => rfl
theorem lo_X9_loseLife_60 (E : kx_E) : kx_look 60 (cd_X9_loseLife E) = t_il 61 1 := funext fun _ => rfl
theorem lo_X9_loseLife_61 (E : kx_E) : kx_look 61 (cd_X9_loseLife E) = t_al 62 0 := funext fun _ => rfl
theorem lo_X9_loseLife_62 (E : kx_E) : kx_look 62 (cd_X9_loseLife E) = t_gR 65 11 206 := funext fun _ => rfl
theorem lo_X9_loseLife_65 (E : kx_E) : kx_look 65 (cd_X9_loseLife E) = t_fun (f2_Jx4a65c_size_8abf5 E) 0 0 68 1 := funext fun _ => rfl
theorem lo_X9_loseLife_68 (E : kx_E) : kx_look 68 (cd_X9_loseLife E) = t_ic 71 103 (fun x y => y ≤ x) := funext fun _ => rfl
theorem lo_X9_loseLife_71 (E : kx_E) : kx_look 71 (cd_X9_loseLife E) = t_al 72 0 := funext fun _ => rfl
theorem lo_X9_loseLife_72 (E : kx_E) : kx_look 72 (cd_X9_loseLife E) = t_gR 75 11 206 := funext fun _ => rfl
theorem lo_X9_loseLife_75 (E : kx_E) : kx_look 75 (cd_X9_loseLife E) = t_il 76 1 := funext fun _ => rfl
theorem lo_X9_loseLife_76 (E : kx_E) : kx_look 76 (cd_X9_loseLife E) = t_fun (f2_Jx4a65c_get_915e3 E) 0 0 79 2 := funext fun _ => rfl
theorem lo_X9_loseLife_79 (E : kx_E) : kx_look 79 (cd_X9_loseLife E) = t_cst 82 10 := funext fun _ => rfl
theorem lo_X9_loseLife_82 (E : kx_E) : kx_look 82 (cd_X9_loseLife E) = t_as 83 2 := funext fun _ => rfl
theorem lo_X9_loseLife_83 (E : kx_E) : kx_look 83 (cd_X9_loseLife E) = t_al 84 2 := funext fun _ => rfl
theorem lo_X9_loseLife_84 (E : kx_E) : kx_look 84 (cd_X9_loseLife E) = t_push 85 (.int 0) := funext fun _ => rfl
theorem lo_X9_loseLife_85 (E : kx_E) : kx_look 85 (cd_X9_loseLife E) = t_al 86 2 := funext fun _ => rfl
theorem lo_X9_loseLife_86 (E : kx_E) : kx_look 86 (cd_X9_loseLife E) = t_gI 89 10 183 := funext fun _ => rfl
theorem lo_X9_loseLife_89 (E : kx_E) : kx_look 89 (cd_X9_loseLife E) = t_push 90 (.int 3) := funext fun _ => rfl
theorem lo_X9_loseLife_90 (E : kx_E) : kx_look 90 (cd_X9_loseLife E) = t_bin 91 (fun x y => x - y) := funext fun _ => rfl
theorem lo_X9_loseLife_91 (E : kx_E) : kx_look 91 (cd_X9_loseLife E) = t_mm 94 (fun x y => if x < y then y else x) := funext fun _ => rfl
theorem lo_X9_loseLife_94 (E : kx_E) : kx_look 94 (cd_X9_loseLife E) = t_pI 97 10 183 := funext fun _ => rfl
theorem lo_X9_loseLife_97 (E : kx_E) : kx_look 97 (cd_X9_loseLife E) = t_inc 100 1 1 := funext fun _ => rfl
theorem lo_X9_loseLife_100 (E : kx_E) : kx_look 100 (cd_X9_loseLife E) = t_gk 60 2 := funext fun _ => rfl
theorem lo_X9_loseLife_103 (E : kx_E) : kx_look 103 (cd_X9_loseLife E) = t_vret := funext fun _ => rfl
theorem lo_X9_nextOnRail_0 (E : kx_E) : kx_look 0 (cd_X9_nextOnRail E) = t_push 1 (.int 0) := funext fun _ => rfl
theorem lo_X9_nextOnRail_1 (E : kx_E) : kx_look 1 (cd_X9_nextOnRail E) = t_is 2 1 := funext fun _ => rfl
theorem lo_X9_nextOnRail_2 (E : kx_E) : kx_look 2 (cd_X9_nextOnRail E) = t_push 5 (.int 10000) := funext fun _ => rfl
theorem lo_X9_nextOnRail_5 (E : kx_E) : kx_look 5 (cd_X9_nextOnRail E) = t_is 6 2 := funext fun _ => rfl
theorem lo_X9_nextOnRail_6 (E : kx_E) : kx_look 6 (cd_X9_nextOnRail E) = t_push 7 (.int 0) := funext fun _ => rfl
theorem lo_X9_nextOnRail_7 (E : kx_E) : kx_look 7 (cd_X9_nextOnRail E) = t_is 8 3 := funext fun _ => rfl
theorem lo_X9_nextOnRail_8 (E : kx_E) : kx_look 8 (cd_X9_nextOnRail E) = t_il 9 3 := funext fun _ => rfl
theorem lo_X9_nextOnRail_9 (E : kx_E) : kx_look 9 (cd_X9_nextOnRail E) = t_al 10 0 := funext fun _ => rfl
theorem lo_X9_nextOnRail_10 (E : kx_E) : kx_look 10 (cd_X9_nextOnRail E) = t_gR 13 11 206 := funext fun _ => rfl
theorem lo_X9_nextOnRail_13 (E : kx_E) : kx_look 13 (cd_X9_nextOnRail E) = t_fun (f2_Jx4a65c_size_8abf5 E) 0 0 16 1 := funext fun _ => rfl
theorem lo_X9_nextOnRail_16 (E : kx_E) : kx_look 16 (cd_X9_nextOnRail E) = t_ic 19 61 (fun x y => y ≤ x) := funext fun _ => rfl
theorem lo_X9_nextOnRail_19 (E : kx_E) : kx_look 19 (cd_X9_nextOnRail E) = t_al 20 0 := funext fun _ => rfl
theorem lo_X9_nextOnRail_20 (E : kx_E) : kx_look 20 (cd_X9_nextOnRail E) = t_gR 23 11 206 := funext fun _ => rfl
theorem lo_X9_nextOnRail_23 (E : kx_E) : kx_look 23 (cd_X9_nextOnRail E) = t_il 24 3 := funext fun _ => rfl
theorem lo_X9_nextOnRail_24 (E : kx_E) : kx_look 24 (cd_X9_nextOnRail E) = t_fun (f2_Jx4a65c_get_915e3 E) 0 0 27 2 := funext fun _ => rfl
theorem lo_X9_nextOnRail_27 (E : kx_E) : kx_look 27 (cd_X9_nextOnRail E) = t_cst 30 10 := funext fun _ => rfl
theorem lo_X9_nextOnRail_30 (E : kx_E) : kx_look 30 (cd_X9_nextOnRail E) = t_gR 33 10 180 := funext fun _ => rfl
theorem lo_X9_nextOnRail_33 (E : kx_E) : kx_look 33 (cd_X9_nextOnRail E) = t_gI 36 2 25 := funext fun _ => rfl
theorem lo_X9_nextOnRail_36 (E : kx_E) : kx_look 36 (cd_X9_nextOnRail E) = t_is 38 4 := funext fun _ => rfl
theorem lo_X9_nextOnRail_38 (E : kx_E) : kx_look 38 (cd_X9_nextOnRail E) = t_il 40 4 := funext fun _ => rfl
theorem lo_X9_nextOnRail_40 (E : kx_E) : kx_look 40 (cd_X9_nextOnRail E) = t_push 41 (.int (-1)) := funext fun _ => rfl
theorem lo_X9_nextOnRail_41 (E : kx_E) : kx_look 41 (cd_X9_nextOnRail E) = t_ic 44 55 (fun x y => x = y) := funext fun _ => rfl
theorem lo_X9_nextOnRail_44 (E : kx_E) : kx_look 44 (cd_X9_nextOnRail E) = t_il 46 4 := funext fun _ => rfl
theorem lo_X9_nextOnRail_46 (E : kx_E) : kx_look 46 (cd_X9_nextOnRail E) = t_il 47 2 := funext fun _ => rfl
theorem lo_X9_nextOnRail_47 (E : kx_E) : kx_look 47 (cd_X9_nextOnRail E) = t_ic 50 55 (fun x y => y ≤ x) := funext fun _ => rfl
theorem lo_X9_nextOnRail_50 (E : kx_E) : kx_look 50 (cd_X9_nextOnRail E) = t_il 51 3 := funext fun _ => rfl
theorem lo_X9_nextOnRail_51 (E : kx_E) : kx_look 51 (cd_X9_nextOnRail E) = t_is 52 1 := funext fun _ => rfl
theorem lo_X9_nextOnRail_52 (E : kx_E) : kx_look 52 (cd_X9_nextOnRail E) = t_il 54 4 := funext fun _ => rfl
theorem lo_X9_nextOnRail_54 (E : kx_E) : kx_look 54 (cd_X9_nextOnRail E) = t_is 55 2 := funext fun _ => rfl
theorem lo_X9_nextOnRail_55 (E : kx_E) : kx_look 55 (cd_X9_nextOnRail E) = t_inc 58 3 1 := funext fun _ => rfl
theorem lo_X9_nextOnRail_58 (E : kx_E) : kx_look 58 (cd_X9_nextOnRail E) = t_gk 8 4 := funext fun _ => rfl
theorem lo_X9_nextOnRail_61 (E : kx_E) : kx_look 61 (cd_X9_nextOnRail E) = t_il 62 1 := funext fun _ => rfl
theorem lo_X9_nextOnRail_62 (E : kx_E) : kx_look 62 (cd_X9_nextOnRail E) = t_iret := funext fun _ => rfl
theorem lo_X9_unload_0 (E : kx_E) : kx_look 0 (cd_X9_unload E) = t_al 1 1 := funext fun _ => rfl
theorem lo_X9_unload_1 (E : kx_E) : kx_look 1 (cd_X9_unload E) = t_gR 4 10 180 := funext fun _ => rfl
theorem lo_X9_unload_4 (E : kx_E) : kx_look 4 (cd_X9_unload E) = t_as 5 2 := funext fun _ => rfl
theorem lo_X9_unload_5 (E : kx_E) : kx_look 5 (cd_X9_unload E) = t_al 6 2 := funext fun _ => rfl
theorem lo_X9_unload_6 (E : kx_E) : kx_look 6 (cd_X9_unload E) = t_gI 9 2 25 := funext fun _ => rfl
theorem lo_X9_unload_9 (E : kx_E) : kx_look 9 (cd_X9_unload E) = t_push 10 (.int (-1)) := funext fun _ => rfl
theorem lo_X9_unload_10 (E : kx_E) : kx_look 10 (cd_X9_unload E) = t_ic 13 40 (fun x y => x = y) := funext fun _ => rfl
theorem lo_X9_unload_13 (E : kx_E) : kx_look 13 (cd_X9_unload E) = t_al 14 2 := funext fun _ => rfl
theorem lo_X9_unload_14 (E : kx_E) : kx_look 14 (cd_X9_unload E) = t_gI 17 2 25 := funext fun _ => rfl
theorem lo_X9_unload_17 (E : kx_E) : kx_look 17 (cd_X9_unload E) = t_al 18 0 := funext fun _ => rfl
theorem lo_X9_unload_18 (E : kx_E) : kx_look 18 (cd_X9_unload E) = t_gI 21 11 210 := funext fun _ => rfl
theorem lo_X9_unload_21 (E : kx_E) : kx_look 21 (cd_X9_unload E) = t_ic 24 40 (fun x y => y ≤ x) := funext fun _ => rfl
theorem lo_X9_unload_24 (E : kx_E) : kx_look 24 (cd_X9_unload E) = t_al 25 0 := funext fun _ => rfl
theorem lo_X9_unload_25 (E : kx_E) : kx_look 25 (cd_X9_unload E) = t_dup 26 := funext fun _ => rfl
theorem lo_X9_unload_26 (E : kx_E) : kx_look 26 (cd_X9_unload E) = t_gI 29 11 215 := funext fun _ => rfl
theorem lo_X9_unload_29 (E : kx_E) : kx_look 29 (cd_X9_unload E) = t_al 30 1 := funext fun _ => rfl
theorem lo_X9_unload_30 (E : kx_E) : kx_look 30 (cd_X9_unload E) = t_gI 33 10 182 := funext fun _ => rfl
theorem lo_X9_unload_33 (E : kx_E) : kx_look 33 (cd_X9_unload E) = t_bin 34 (fun x y => x + y) := funext fun _ => rfl
theorem lo_X9_unload_34 (E : kx_E) : kx_look 34 (cd_X9_unload E) = t_pI 37 11 215 := funext fun _ => rfl
theorem lo_X9_unload_37 (E : kx_E) : kx_look 37 (cd_X9_unload E) = t_go 67 := funext fun _ => rfl
theorem lo_X9_unload_40 (E : kx_E) : kx_look 40 (cd_X9_unload E) = t_al 41 2 := funext fun _ => rfl
theorem lo_X9_unload_41 (E : kx_E) : kx_look 41 (cd_X9_unload E) = t_gR 44 2 22 := funext fun _ => rfl
theorem lo_X9_unload_44 (E : kx_E) : kx_look 44 (cd_X9_unload E) = t_al 45 1 := funext fun _ => rfl
theorem lo_X9_unload_45 (E : kx_E) : kx_look 45 (cd_X9_unload E) = t_gI 48 10 181 := funext fun _ => rfl
theorem lo_X9_unload_48 (E : kx_E) : kx_look 48 (cd_X9_unload E) = t_al 49 2 := funext fun _ => rfl
theorem lo_X9_unload_49 (E : kx_E) : kx_look 49 (cd_X9_unload E) = t_gR 52 2 22 := funext fun _ => rfl
theorem lo_X9_unload_52 (E : kx_E) : kx_look 52 (cd_X9_unload E) = t_al 53 1 := funext fun _ => rfl
theorem lo_X9_unload_53 (E : kx_E) : kx_look 53 (cd_X9_unload E) = t_gI 56 10 181 := funext fun _ => rfl
theorem lo_X9_unload_56 (E : kx_E) : kx_look 56 (cd_X9_unload E) = t_fun (f2_X1_of E) 0 0 59 2 := funext fun _ => rfl
theorem lo_X9_unload_59 (E : kx_E) : kx_look 59 (cd_X9_unload E) = t_al 60 1 := funext fun _ => rfl
theorem lo_X9_unload_60 (E : kx_E) : kx_look 60 (cd_X9_unload E) = t_gI 63 10 182 := funext fun _ => rfl
theorem lo_X9_unload_63 (E : kx_E) : kx_look 63 (cd_X9_unload E) = t_bin 64 (fun x y => x + y) := funext fun _ => rfl
theorem lo_X9_unload_64 (E : kx_E) : kx_look 64 (cd_X9_unload E) = t_fun (f2_X1_put E) 0 0 67 3 := funext fun _ => rfl
theorem lo_X9_unload_67 (E : kx_E) : kx_look 67 (cd_X9_unload E) = t_vret := funext fun _ => rfl
theorem lo_X9_bindsOne_0 (E : kx_E) : kx_look 0 (cd_X9_bindsOne E) = t_push 1 (.int 2) := funext fun _ => rfl
theorem lo_X9_bindsOne_1 (E : kx_E) : kx_look 1 (cd_X9_bindsOne E) = t_al 2 0 := funext fun _ => rfl
theorem lo_X9_bindsOne_2 (E : kx_E) : kx_look 2 (cd_X9_bindsOne E) = t_push 3 (.int 1) := funext fun _ => rfl
theorem lo_X9_bindsOne_3 (E : kx_E) : kx_look 3 (cd_X9_bindsOne E) = t_fun (f2_X1_of E) 0 0 6 2 := funext fun _ => rfl
theorem lo_X9_bindsOne_6 (E : kx_E) : kx_look 6 (cd_X9_bindsOne E) = t_mm 9 (fun x y => if y < x then y else x) := funext fun _ => rfl
theorem lo_X9_bindsOne_9 (E : kx_E) : kx_look 9 (cd_X9_bindsOne E) = t_is 10 1 := funext fun _ => rfl
theorem lo_X9_bindsOne_10 (E : kx_E) : kx_look 10 (cd_X9_bindsOne E) = t_push 11 (.int 1) := funext fun _ => rfl
theorem lo_X9_bindsOne_11 (E : kx_E) : kx_look 11 (cd_X9_bindsOne E) = t_al 12 0 := funext fun _ => rfl
theorem lo_X9_bindsOne_12 (E : kx_E) : kx_look 12 (cd_X9_bindsOne E) = t_push 13 (.int 2) := funext fun _ => rfl
theorem lo_X9_bindsOne_13 (E : kx_E) : kx_look 13 (cd_X9_bindsOne E) = t_fun (f2_X1_of E) 0 0 16 2 := funext fun _ => rfl
theorem lo_X9_bindsOne_16 (E : kx_E) : kx_look 16 (cd_X9_bindsOne E) = t_mm 19 (fun x y => if y < x then y else x) := funext fun _ => rfl
theorem lo_X9_bindsOne_19 (E : kx_E) : kx_look 19 (cd_X9_bindsOne E) = t_is 20 2 := funext fun _ => rfl
theorem lo_X9_bindsOne_20 (E : kx_E) : kx_look 20 (cd_X9_bindsOne E) = t_push 21 (.int 3) := funext fun _ => rfl
theorem lo_X9_bindsOne_21 (E : kx_E) : kx_look 21 (cd_X9_bindsOne E) = t_push 22 (.int 2) := funext fun _ => rfl
theorem lo_X9_bindsOne_22 (E : kx_E) : kx_look 22 (cd_X9_bindsOne E) = t_push 23 (.int 2) := funext fun _ => rfl
theorem lo_X9_bindsOne_23 (E : kx_E) : kx_look 23 (cd_X9_bindsOne E) = t_il 24 1 := funext fun _ => rfl
theorem lo_X9_bindsOne_24 (E : kx_E) : kx_look 24 (cd_X9_bindsOne E) = t_bin 25 (fun x y => x - y) := funext fun _ => rfl
theorem lo_X9_bindsOne_25 (E : kx_E) : kx_look 25 (cd_X9_bindsOne E) = t_bin 26 (fun x y => x * y) := funext fun _ => rfl
theorem lo_X9_bindsOne_26 (E : kx_E) : kx_look 26 (cd_X9_bindsOne E) = t_bin 27 (fun x y => x + y) := funext fun _ => rfl
theorem lo_X9_bindsOne_27 (E : kx_E) : kx_look 27 (cd_X9_bindsOne E) = t_push 28 (.int 2) := funext fun _ => rfl
theorem lo_X9_bindsOne_28 (E : kx_E) : kx_look 28 (cd_X9_bindsOne E) = t_push 29 (.int 1) := funext fun _ => rfl
theorem lo_X9_bindsOne_29 (E : kx_E) : kx_look 29 (cd_X9_bindsOne E) = t_il 30 2 := funext fun _ => rfl
theorem lo_X9_bindsOne_30 (E : kx_E) : kx_look 30 (cd_X9_bindsOne E) = t_bin 31 (fun x y => x - y) := funext fun _ => rfl
theorem lo_X9_bindsOne_31 (E : kx_E) : kx_look 31 (cd_X9_bindsOne E) = t_bin 32 (fun x y => x * y) := funext fun _ => rfl
theorem lo_X9_bindsOne_32 (E : kx_E) : kx_look 32 (cd_X9_bindsOne E) = t_bin 33 (fun x y => x + y) := funext fun _ => rfl
theorem lo_X9_bindsOne_33 (E : kx_E) : kx_look 33 (cd_X9_bindsOne E) = t_is 34 3 := funext fun _ => rfl
theorem lo_X9_bindsOne_34 (E : kx_E) : kx_look 34 (cd_X9_bindsOne E) = t_il 35 3 := funext fun _ => rfl
theorem lo_X9_bindsOne_35 (E : kx_E) : kx_look 35 (cd_X9_bindsOne E) = t_al 36 0 := funext fun _ => rfl
theorem lo_X9_bindsOne_36 (E : kx_E) : kx_look 36 (cd_X9_bindsOne E) = t_push 37 (.int 0) := funext fun _ => rfl
theorem lo_X9_bindsOne_37 (E : kx_E) : kx_look 37 (cd_X9_bindsOne E) = t_fun (f2_X1_of E) 0 0 40 2 := funext fun _ => rfl
theorem lo_X9_bindsOne_40 (E : kx_E) : kx_look 40 (cd_X9_bindsOne E) = t_ic 43 45 (fun x y => x ≤ y) := funext fun _ => rfl
theorem lo_X9_bindsOne_43 (E : kx_E) : kx_look 43 (cd_X9_bindsOne E) = t_push 44 (.int 0) := funext fun _ => rfl
theorem lo_X9_bindsOne_44 (E : kx_E) : kx_look 44 (cd_X9_bindsOne E) = t_zret := funext fun _ => rfl
theorem lo_X9_bindsOne_45 (E : kx_E) : kx_look 45 (cd_X9_bindsOne E) = t_al 46 0 := funext fun _ => rfl
theorem lo_X9_bindsOne_46 (E : kx_E) : kx_look 46 (cd_X9_bindsOne E) = t_push 47 (.int 0) := funext fun _ => rfl
theorem lo_X9_bindsOne_47 (E : kx_E) : kx_look 47 (cd_X9_bindsOne E) = t_al 48 0 := funext fun _ => rfl
theorem lo_X9_bindsOne_48 (E : kx_E) : kx_look 48 (cd_X9_bindsOne E) = t_push 49 (.int 0) := funext fun _ => rfl
theorem lo_X9_bindsOne_49 (E : kx_E) : kx_look 49 (cd_X9_bindsOne E) = t_fun (f2_X1_of E) 0 0 52 2 := funext fun _ => rfl
theorem lo_X9_bindsOne_52 (E : kx_E) : kx_look 52 (cd_X9_bindsOne E) = t_il 53 3 := funext fun _ => rfl
theorem lo_X9_bindsOne_53 (E : kx_E) : kx_look 53 (cd_X9_bindsOne E) = t_bin 54 (fun x y => x - y) := funext fun _ => rfl
theorem lo_X9_bindsOne_54 (E : kx_E) : kx_look 54 (cd_X9_bindsOne E) = t_fun (f2_X1_put E) 0 0 57 3 := funext fun _ => rfl
theorem lo_X9_bindsOne_57 (E : kx_E) : kx_look 57 (cd_X9_bindsOne E) = t_al 58 0 := funext fun _ => rfl
theorem lo_X9_bindsOne_58 (E : kx_E) : kx_look 58 (cd_X9_bindsOne E) = t_push 59 (.int 1) := funext fun _ => rfl
theorem lo_X9_bindsOne_59 (E : kx_E) : kx_look 59 (cd_X9_bindsOne E) = t_al 60 0 := funext fun _ => rfl
theorem lo_X9_bindsOne_60 (E : kx_E) : kx_look 60 (cd_X9_bindsOne E) = t_push 61 (.int 1) := funext fun _ => rfl
theorem lo_X9_bindsOne_61 (E : kx_E) : kx_look 61 (cd_X9_bindsOne E) = t_fun (f2_X1_of E) 0 0 64 2 := funext fun _ => rfl
theorem lo_X9_bindsOne_64 (E : kx_E) : kx_look 64 (cd_X9_bindsOne E) = t_il 65 1 := funext fun _ => rfl
theorem lo_X9_bindsOne_65 (E : kx_E) : kx_look 65 (cd_X9_bindsOne E) = t_bin 66 (fun x y => x - y) := funext fun _ => rfl
theorem lo_X9_bindsOne_66 (E : kx_E) : kx_look 66 (cd_X9_bindsOne E) = t_fun (f2_X1_put E) 0 0 69 3 := funext fun _ => rfl
theorem lo_X9_bindsOne_69 (E : kx_E) : kx_look 69 (cd_X9_bindsOne E) = t_al 70 0 := funext fun _ => rfl
theorem lo_X9_bindsOne_70 (E : kx_E) : kx_look 70 (cd_X9_bindsOne E) = t_push 71 (.int 2) := funext fun _ => rfl
theorem lo_X9_bindsOne_71 (E : kx_E) : kx_look 71 (cd_X9_bindsOne E) = t_al 72 0 := funext fun _ => rfl
theorem lo_X9_bindsOne_72 (E : kx_E) : kx_look 72 (cd_X9_bindsOne E) = t_push 73 (.int 2) := funext fun _ => rfl
theorem lo_X9_bindsOne_73 (E : kx_E) : kx_look 73 (cd_X9_bindsOne E) = t_fun (f2_X1_of E) 0 0 76 2 := funext fun _ => rfl
theorem lo_X9_bindsOne_76 (E : kx_E) : kx_look 76 (cd_X9_bindsOne E) = t_il 77 2 := funext fun _ => rfl
theorem lo_X9_bindsOne_77 (E : kx_E) : kx_look 77 (cd_X9_bindsOne E) = t_bin 78 (fun x y => x - y) := funext fun _ => rfl
theorem lo_X9_bindsOne_78 (E : kx_E) : kx_look 78 (cd_X9_bindsOne E) = t_fun (f2_X1_put E) 0 0 81 3 := funext fun _ => rfl
theorem lo_X9_bindsOne_81 (E : kx_E) : kx_look 81 (cd_X9_bindsOne E) = t_push 82 (.int 1) := funext fun _ => rfl
theorem lo_X9_bindsOne_82 (E : kx_E) : kx_look 82 (cd_X9_bindsOne E) = t_zret := funext fun _ => rfl
theorem lo_X9_fewestLamps_0 (E : kx_E) : kx_look 0 (cd_X9_fewestLamps E) = t_push 1 (.int 0) := funext fun _ => rfl
theorem lo_X9_fewestLamps_1 (E : kx_E) : kx_look 1 (cd_X9_fewestLamps E) = t_is 2 3 := funext fun _ => rfl
theorem lo_X9_fewestLamps_2 (E : kx_E) : kx_look 2 (cd_X9_fewestLamps E) = t_il 3 3 := funext fun _ => rfl
theorem lo_X9_fewestLamps_3 (E : kx_E) : kx_look 3 (cd_X9_fewestLamps E) = t_push 4 (.int 3) := funext fun _ => rfl
theorem lo_X9_fewestLamps_4 (E : kx_E) : kx_look 4 (cd_X9_fewestLamps E) = t_ic 7 30 (fun x y => y < x) := funext fun _ => rfl
theorem lo_X9_fewestLamps_7 (E : kx_E) : kx_look 7 (cd_X9_fewestLamps E) = t_al 8 0 := funext fun _ => rfl
theorem lo_X9_fewestLamps_8 (E : kx_E) : kx_look 8 (cd_X9_fewestLamps E) = t_gI 11 11 211 := funext fun _ => rfl
theorem lo_X9_fewestLamps_11 (E : kx_E) : kx_look 11 (cd_X9_fewestLamps E) = t_il 12 3 := funext fun _ => rfl
theorem lo_X9_fewestLamps_12 (E : kx_E) : kx_look 12 (cd_X9_fewestLamps E) = t_bin 13 (fun x y => x + y) := funext fun _ => rfl
theorem lo_X9_fewestLamps_13 (E : kx_E) : kx_look 13 (cd_X9_fewestLamps E) = t_il 14 2 := funext fun _ => rfl
theorem lo_X9_fewestLamps_14 (E : kx_E) : kx_look 14 (cd_X9_fewestLamps E) = t_bin 15 (fun x y => x * y) := funext fun _ => rfl
theorem lo_X9_fewestLamps_15 (E : kx_E) : kx_look 15 (cd_X9_fewestLamps E) = t_il 16 1 := funext fun _ => rfl
theorem lo_X9_fewestLamps_16 (E : kx_E) : kx_look 16 (cd_X9_fewestLamps E) = t_fun (f2_X9_sumAsked E) 0 0 19 1 := funext fun _ => rfl
theorem lo_X9_fewestLamps_19 (E : kx_E) : kx_look 19 (cd_X9_fewestLamps E) = t_ic 22 24 (fun x y => x < y) := funext fun _ => rfl
theorem lo_X9_fewestLamps_22 (E : kx_E) : kx_look 22 (cd_X9_fewestLamps E) = t_il 23 3 := funext fun _ => rfl
theorem lo_X9_fewestLamps_23 (E : kx_E) : kx_look 23 (cd_X9_fewestLamps E) = t_iret := funext fun _ => rfl
theorem lo_X9_fewestLamps_24 (E : kx_E) : kx_look 24 (cd_X9_fewestLamps E) = t_inc 27 3 1 := funext fun _ => rfl
theorem lo_X9_fewestLamps_27 (E : kx_E) : kx_look 27 (cd_X9_fewestLamps E) = t_gk 2 4 := funext fun _ => rfl
theorem lo_X9_fewestLamps_30 (E : kx_E) : kx_look 30 (cd_X9_fewestLamps E) = t_push 31 (.int (-1)) := funext fun _ => rfl
theorem lo_X9_fewestLamps_31 (E : kx_E) : kx_look 31 (cd_X9_fewestLamps E) = t_iret := funext fun _ => rfl
theorem lo_X9_sale_0 (E : kx_E) : kx_look 0 (cd_X9_sale E) = t_il 1 1 := funext fun _ => rfl
theorem lo_X9_sale_1 (E : kx_E) : kx_look 1 (cd_X9_sale E) = t_if 4 15 (fun x => x < 0) := funext fun _ => rfl
theorem lo_X9_sale_4 (E : kx_E) : kx_look 4 (cd_X9_sale E) = t_il 5 1 := funext fun _ => rfl
theorem lo_X9_sale_5 (E : kx_E) : kx_look 5 (cd_X9_sale E) = t_al 6 0 := funext fun _ => rfl
theorem lo_X9_sale_6 (E : kx_E) : kx_look 6 (cd_X9_sale E) = t_gR 9 11 207 := funext fun _ => rfl
theorem lo_X9_sale_9 (E : kx_E) : kx_look 9 (cd_X9_sale E) = t_fun (f2_Jx4a65c_size_8abf5 E) 0 0 12 1 := funext fun _ => rfl
theorem lo_X9_sale_12 (E : kx_E) : kx_look 12 (cd_X9_sale E) = t_ic 15 26 (fun x y => x < y) := funext fun _ => rfl
theorem lo_X9_sale_15 (E : kx_E) : kx_look 15 (cd_X9_sale E) = t_no := funext fun _ => rfl
theorem lo_X9_sale_26 (E : kx_E) : kx_look 26 (cd_X9_sale E) = t_il 27 2 := funext fun _ => rfl
theorem lo_X9_sale_27 (E : kx_E) : kx_look 27 (cd_X9_sale E) = t_push 28 (.int 0) := funext fun _ => rfl
theorem lo_X9_sale_28 (E : kx_E) : kx_look 28 (cd_X9_sale E) = t_push 29 (.int 4) := funext fun _ => rfl
theorem lo_X9_sale_29 (E : kx_E) : kx_look 29 (cd_X9_sale E) = t_fun (f2_X9_isWithin E) 0 0 32 3 := funext fun _ => rfl
theorem lo_X9_sale_32 (E : kx_E) : kx_look 32 (cd_X9_sale E) = t_if 35 46 (fun x => x ≠ 0) := funext fun _ => rfl
theorem lo_X9_sale_35 (E : kx_E) : kx_look 35 (cd_X9_sale E) = t_no := funext fun _ => rfl
theorem lo_X9_sale_46 (E : kx_E) : kx_look 46 (cd_X9_sale E) = t_al 47 0 := funext fun _ => rfl
theorem lo_X9_sale_47 (E : kx_E) : kx_look 47 (cd_X9_sale E) = t_gR 50 11 207 := funext fun _ => rfl
theorem lo_X9_sale_50 (E : kx_E) : kx_look 50 (cd_X9_sale E) = t_al 51 0 := funext fun _ => rfl
theorem lo_X9_sale_51 (E : kx_E) : kx_look 51 (cd_X9_sale E) = t_gR 54 11 207 := funext fun _ => rfl
theorem lo_X9_sale_54 (E : kx_E) : kx_look 54 (cd_X9_sale E) = t_fun (f2_Jx4a65c_size_8abf5 E) 0 0 57 1 := funext fun _ => rfl
theorem lo_X9_sale_57 (E : kx_E) : kx_look 57 (cd_X9_sale E) = t_push 58 (.int 1) := funext fun _ => rfl
theorem lo_X9_sale_58 (E : kx_E) : kx_look 58 (cd_X9_sale E) = t_bin 59 (fun x y => x - y) := funext fun _ => rfl
theorem lo_X9_sale_59 (E : kx_E) : kx_look 59 (cd_X9_sale E) = t_il 60 1 := funext fun _ => rfl
theorem lo_X9_sale_60 (E : kx_E) : kx_look 60 (cd_X9_sale E) = t_bin 61 (fun x y => x - y) := funext fun _ => rfl
theorem lo_X9_sale_61 (E : kx_E) : kx_look 61 (cd_X9_sale E) = t_fun (f2_Jx4a65c_get_915e3 E) 0 0 64 2 := funext fun _ => rfl
theorem lo_X9_sale_64 (E : kx_E) : kx_look 64 (cd_X9_sale E) = t_cst 67 9 := funext fun _ => rfl
theorem lo_X9_sale_67 (E : kx_E) : kx_look 67 (cd_X9_sale E) = t_il 68 2 := funext fun _ => rfl
theorem lo_X9_sale_68 (E : kx_E) : kx_look 68 (cd_X9_sale E) = t_fun (f2_X7_numberOf E) 0 0 71 2 := funext fun _ => rfl
theorem lo_X9_sale_71 (E : kx_E) : kx_look 71 (cd_X9_sale E) = t_iret := funext fun _ => rfl
theorem lo_X9_book_0 (E : kx_E) : kx_look 0 (cd_X9_book E) = t_il 1 2 := funext fun _ => rfl
theorem lo_X9_book_1 (E : kx_E) : kx_look 1 (cd_X9_book E) = t_al 2 1 := funext fun _ => rfl
theorem lo_X9_book_2 (E : kx_E) : kx_look 2 (cd_X9_book E) = t_gI 5 9 163 := funext fun _ => rfl
theorem lo_X9_book_5 (E : kx_E) : kx_look 5 (cd_X9_book E) = t_bin 6 (fun x y => x * y) := funext fun _ => rfl
theorem lo_X9_book_6 (E : kx_E) : kx_look 6 (cd_X9_book E) = t_is 7 3 := funext fun _ => rfl
theorem lo_X9_book_7 (E : kx_E) : kx_look 7 (cd_X9_book E) = t_il 8 2 := funext fun _ => rfl
theorem lo_X9_book_8 (E : kx_E) : kx_look 8 (cd_X9_book E) = t_al 9 1 := funext fun _ => rfl
theorem lo_X9_book_9 (E : kx_E) : kx_look 9 (cd_X9_book E) = t_gI 12 9 166 := funext fun _ => rfl
theorem lo_X9_book_12 (E : kx_E) : kx_look 12 (cd_X9_book E) = t_bin 13 (fun x y => x * y) := funext fun _ => rfl
theorem lo_X9_book_13 (E : kx_E) : kx_look 13 (cd_X9_book E) = t_is 15 4 := funext fun _ => rfl
theorem lo_X9_book_15 (E : kx_E) : kx_look 15 (cd_X9_book E) = t_push 16 (.int 2) := funext fun _ => rfl
theorem lo_X9_book_16 (E : kx_E) : kx_look 16 (cd_X9_book E) = t_il 18 4 := funext fun _ => rfl
theorem lo_X9_book_18 (E : kx_E) : kx_look 18 (cd_X9_book E) = t_bin 19 (fun x y => x * y) := funext fun _ => rfl
theorem lo_X9_book_19 (E : kx_E) : kx_look 19 (cd_X9_book E) = t_is 21 5 := funext fun _ => rfl
theorem lo_X9_book_21 (E : kx_E) : kx_look 21 (cd_X9_book E) = t_il 22 2 := funext fun _ => rfl
theorem lo_X9_book_22 (E : kx_E) : kx_look 22 (cd_X9_book E) = t_al 23 1 := funext fun _ => rfl
theorem lo_X9_book_23 (E : kx_E) : kx_look 23 (cd_X9_book E) = t_gI 26 9 164 := funext fun _ => rfl
theorem lo_X9_book_26 (E : kx_E) : kx_look 26 (cd_X9_book E) = t_bin 27 (fun x y => x * y) := funext fun _ => rfl
theorem lo_X9_book_27 (E : kx_E) : kx_look 27 (cd_X9_book E) = t_al 28 1 := funext fun _ => rfl
theorem lo_X9_book_28 (E : kx_E) : kx_look 28 (cd_X9_book E) = t_gI 31 9 163 := funext fun _ => rfl
theorem lo_X9_book_31 (E : kx_E) : kx_look 31 (cd_X9_book E) = t_bin 32 (fun x y => x * y) := funext fun _ => rfl
theorem lo_X9_book_32 (E : kx_E) : kx_look 32 (cd_X9_book E) = t_is 34 6 := funext fun _ => rfl
theorem lo_X9_book_34 (E : kx_E) : kx_look 34 (cd_X9_book E) = t_il 35 2 := funext fun _ => rfl
theorem lo_X9_book_35 (E : kx_E) : kx_look 35 (cd_X9_book E) = t_al 36 1 := funext fun _ => rfl
theorem lo_X9_book_36 (E : kx_E) : kx_look 36 (cd_X9_book E) = t_gI 39 9 164 := funext fun _ => rfl
theorem lo_X9_book_39 (E : kx_E) : kx_look 39 (cd_X9_book E) = t_al 40 1 := funext fun _ => rfl
theorem lo_X9_book_40 (E : kx_E) : kx_look 40 (cd_X9_book E) = t_gI 43 9 163 := funext fun _ => rfl
theorem lo_X9_book_43 (E : kx_E) : kx_look 43 (cd_X9_book E) = t_bin 44 (fun x y => x * y) := funext fun _ => rfl
theorem lo_X9_book_44 (E : kx_E) : kx_look 44 (cd_X9_book E) = t_fun (f2_X9_shareOfGrower E) 0 0 47 1 := funext fun _ => rfl
theorem lo_X9_book_47 (E : kx_E) : kx_look 47 (cd_X9_book E) = t_bin 48 (fun x y => x * y) := funext fun _ => rfl
theorem lo_X9_book_48 (E : kx_E) : kx_look 48 (cd_X9_book E) = t_is 50 7 := funext fun _ => rfl
theorem lo_X9_book_50 (E : kx_E) : kx_look 50 (cd_X9_book E) = t_al 51 1 := funext fun _ => rfl
theorem lo_X9_book_51 (E : kx_E) : kx_look 51 (cd_X9_book E) = t_gR 54 9 161 := funext fun _ => rfl
theorem lo_X9_book_54 (E : kx_E) : kx_look 54 (cd_X9_book E) = t_dup 55 := funext fun _ => rfl
theorem lo_X9_book_55 (E : kx_E) : kx_look 55 (cd_X9_book E) = t_gI 58 2 23 := funext fun _ => rfl
theorem lo_X9_book_58 (E : kx_E) : kx_look 58 (cd_X9_book E) = t_il 60 6 := funext fun _ => rfl
theorem lo_X9_book_60 (E : kx_E) : kx_look 60 (cd_X9_book E) = t_il 62 5 := funext fun _ => rfl
theorem lo_X9_book_62 (E : kx_E) : kx_look 62 (cd_X9_book E) = t_bin 63 (fun x y => x + y) := funext fun _ => rfl
theorem lo_X9_book_63 (E : kx_E) : kx_look 63 (cd_X9_book E) = t_bin 64 (fun x y => x - y) := funext fun _ => rfl
theorem lo_X9_book_64 (E : kx_E) : kx_look 64 (cd_X9_book E) = t_pI 67 2 23 := funext fun _ => rfl
theorem lo_X9_book_67 (E : kx_E) : kx_look 67 (cd_X9_book E) = t_al 68 1 := funext fun _ => rfl
theorem lo_X9_book_68 (E : kx_E) : kx_look 68 (cd_X9_book E) = t_gR 71 9 161 := funext fun _ => rfl
theorem lo_X9_book_71 (E : kx_E) : kx_look 71 (cd_X9_book E) = t_dup 72 := funext fun _ => rfl
theorem lo_X9_book_72 (E : kx_E) : kx_look 72 (cd_X9_book E) = t_gI 75 2 26 := funext fun _ => rfl
theorem lo_X9_book_75 (E : kx_E) : kx_look 75 (cd_X9_book E) = t_il 77 4 := funext fun _ => rfl
theorem lo_X9_book_77 (E : kx_E) : kx_look 77 (cd_X9_book E) = t_bin 78 (fun x y => x + y) := funext fun _ => rfl
theorem lo_X9_book_78 (E : kx_E) : kx_look 78 (cd_X9_book E) = t_pI 81 2 26 := funext fun _ => rfl
theorem lo_X9_book_81 (E : kx_E) : kx_look 81 (cd_X9_book E) = t_al 82 0 := funext fun _ => rfl
theorem lo_X9_book_82 (E : kx_E) : kx_look 82 (cd_X9_book E) = t_dup 83 := funext fun _ => rfl
theorem lo_X9_book_83 (E : kx_E) : kx_look 83 (cd_X9_book E) = t_gI 86 11 214 := funext fun _ => rfl
theorem lo_X9_book_86 (E : kx_E) : kx_look 86 (cd_X9_book E) = t_il 88 6 := funext fun _ => rfl
theorem lo_X9_book_88 (E : kx_E) : kx_look 88 (cd_X9_book E) = t_il 90 7 := funext fun _ => rfl
theorem lo_X9_book_90 (E : kx_E) : kx_look 90 (cd_X9_book E) = t_bin 91 (fun x y => x - y) := funext fun _ => rfl
theorem lo_X9_book_91 (E : kx_E) : kx_look 91 (cd_X9_book E) = t_il 93 5 := funext fun _ => rfl
theorem lo_X9_book_93 (E : kx_E) : kx_look 93 (cd_X9_book E) = t_bin 94 (fun x y => x + y) := funext fun _ => rfl
theorem lo_X9_book_94 (E : kx_E) : kx_look 94 (cd_X9_book E) = t_bin 95 (fun x y => x + y) := funext fun _ => rfl
theorem lo_X9_book_95 (E : kx_E) : kx_look 95 (cd_X9_book E) = t_pI 98 11 214 := funext fun _ => rfl
theorem lo_X9_book_98 (E : kx_E) : kx_look 98 (cd_X9_book E) = t_al 99 1 := funext fun _ => rfl
theorem lo_X9_book_99 (E : kx_E) : kx_look 99 (cd_X9_book E) = t_gR 102 9 160 := funext fun _ => rfl
theorem lo_X9_book_102 (E : kx_E) : kx_look 102 (cd_X9_book E) = t_gR 105 7 121 := funext fun _ => rfl
theorem lo_X9_book_105 (E : kx_E) : kx_look 105 (cd_X9_book E) = t_dup 106 := funext fun _ => rfl
theorem lo_X9_book_106 (E : kx_E) : kx_look 106 (cd_X9_book E) = t_gI 109 6 101 := funext fun _ => rfl
theorem lo_X9_book_109 (E : kx_E) : kx_look 109 (cd_X9_book E) = t_il 111 7 := funext fun _ => rfl
theorem lo_X9_book_111 (E : kx_E) : kx_look 111 (cd_X9_book E) = t_bin 112 (fun x y => x + y) := funext fun _ => rfl
theorem lo_X9_book_112 (E : kx_E) : kx_look 112 (cd_X9_book E) = t_pI 115 6 101 := funext fun _ => rfl
theorem lo_X9_book_115 (E : kx_E) : kx_look 115 (cd_X9_book E) = t_al 116 1 := funext fun _ => rfl
theorem lo_X9_book_116 (E : kx_E) : kx_look 116 (cd_X9_book E) = t_gR 119 9 160 := funext fun _ => rfl
theorem lo_X9_book_119 (E : kx_E) : kx_look 119 (cd_X9_book E) = t_gR 122 7 121 := funext fun _ => rfl
theorem lo_X9_book_122 (E : kx_E) : kx_look 122 (cd_X9_book E) = t_dup 123 := funext fun _ => rfl
theorem lo_X9_book_123 (E : kx_E) : kx_look 123 (cd_X9_book E) = t_gI 126 6 104 := funext fun _ => rfl
theorem lo_X9_book_126 (E : kx_E) : kx_look 126 (cd_X9_book E) = t_il 127 3 := funext fun _ => rfl
theorem lo_X9_book_127 (E : kx_E) : kx_look 127 (cd_X9_book E) = t_bin 128 (fun x y => x + y) := funext fun _ => rfl
theorem lo_X9_book_128 (E : kx_E) : kx_look 128 (cd_X9_book E) = t_pI 131 6 104 := funext fun _ => rfl
theorem lo_X9_book_131 (E : kx_E) : kx_look 131 (cd_X9_book E) = t_al 132 1 := funext fun _ => rfl
theorem lo_X9_book_132 (E : kx_E) : kx_look 132 (cd_X9_book E) = t_gR 135 9 160 := funext fun _ => rfl
theorem lo_X9_book_135 (E : kx_E) : kx_look 135 (cd_X9_book E) = t_dup 136 := funext fun _ => rfl
theorem lo_X9_book_136 (E : kx_E) : kx_look 136 (cd_X9_book E) = t_gI 139 7 125 := funext fun _ => rfl
theorem lo_X9_book_139 (E : kx_E) : kx_look 139 (cd_X9_book E) = t_il 140 3 := funext fun _ => rfl
theorem lo_X9_book_140 (E : kx_E) : kx_look 140 (cd_X9_book E) = t_bin 141 (fun x y => x - y) := funext fun _ => rfl
theorem lo_X9_book_141 (E : kx_E) : kx_look 141 (cd_X9_book E) = t_pI 144 7 125 := funext fun _ => rfl
theorem lo_X9_book_144 (E : kx_E) : kx_look 144 (cd_X9_book E) = t_al 145 1 := funext fun _ => rfl
theorem lo_X9_book_145 (E : kx_E) : kx_look 145 (cd_X9_book E) = t_gR 148 9 160 := funext fun _ => rfl
theorem lo_X9_book_148 (E : kx_E) : kx_look 148 (cd_X9_book E) = t_dup 149 := funext fun _ => rfl
theorem lo_X9_book_149 (E : kx_E) : kx_look 149 (cd_X9_book E) = t_gI 152 7 127 := funext fun _ => rfl
theorem lo_X9_book_152 (E : kx_E) : kx_look 152 (cd_X9_book E) = t_il 154 4 := funext fun _ => rfl
theorem lo_X9_book_154 (E : kx_E) : kx_look 154 (cd_X9_book E) = t_bin 155 (fun x y => x - y) := funext fun _ => rfl
theorem lo_X9_book_155 (E : kx_E) : kx_look 155 (cd_X9_book E) = t_pI 158 7 127 := funext fun _ => rfl
theorem lo_X9_book_158 (E : kx_E) : kx_look 158 (cd_X9_book E) = t_al 159 0 := funext fun _ => rfl
theorem lo_X9_book_159 (E : kx_E) : kx_look 159 (cd_X9_book E) = t_dup 160 := funext fun _ => rfl
theorem lo_X9_book_160 (E : kx_E) : kx_look 160 (cd_X9_book E) = t_gI 163 11 216 := funext fun _ => rfl
theorem lo_X9_book_163 (E : kx_E) : kx_look 163 (cd_X9_book E) = t_il 164 3 := funext fun _ => rfl
theorem lo_X9_book_164 (E : kx_E) : kx_look 164 (cd_X9_book E) = t_bin 165 (fun x y => x + y) := funext fun _ => rfl
theorem lo_X9_book_165 (E : kx_E) : kx_look 165 (cd_X9_book E) = t_pI 168 11 216 := funext fun _ => rfl
theorem lo_X9_book_168 (E : kx_E) : kx_look 168 (cd_X9_book E) = t_al 169 0 := funext fun _ => rfl
theorem lo_X9_book_169 (E : kx_E) : kx_look 169 (cd_X9_book E) = t_dup 170 := funext fun _ => rfl
theorem lo_X9_book_170 (E : kx_E) : kx_look 170 (cd_X9_book E) = t_gI 173 11 217 := funext fun _ => rfl
theorem lo_X9_book_173 (E : kx_E) : kx_look 173 (cd_X9_book E) = t_il 175 6 := funext fun _ => rfl
theorem lo_X9_book_175 (E : kx_E) : kx_look 175 (cd_X9_book E) = t_bin 176 (fun x y => x + y) := funext fun _ => rfl
theorem lo_X9_book_176 (E : kx_E) : kx_look 176 (cd_X9_book E) = t_pI 179 11 217 := funext fun _ => rfl
theorem lo_X9_book_179 (E : kx_E) : kx_look 179 (cd_X9_book E) = t_al 180 1 := funext fun _ => rfl
theorem lo_X9_book_180 (E : kx_E) : kx_look 180 (cd_X9_book E) = t_gR 183 9 162 := funext fun _ => rfl
theorem lo_X9_book_183 (E : kx_E) : kx_look 183 (cd_X9_book E) = t_nul 199 186 := funext fun _ => rfl
theorem lo_X9_book_186 (E : kx_E) : kx_look 186 (cd_X9_book E) = t_al 187 1 := funext fun _ => rfl
theorem lo_X9_book_187 (E : kx_E) : kx_look 187 (cd_X9_book E) = t_gR 190 9 162 := funext fun _ => rfl
theorem lo_X9_book_190 (E : kx_E) : kx_look 190 (cd_X9_book E) = t_dup 191 := funext fun _ => rfl
theorem lo_X9_book_191 (E : kx_E) : kx_look 191 (cd_X9_book E) = t_gI 194 8 146 := funext fun _ => rfl
theorem lo_X9_book_194 (E : kx_E) : kx_look 194 (cd_X9_book E) = t_il 195 3 := funext fun _ => rfl
theorem lo_X9_book_195 (E : kx_E) : kx_look 195 (cd_X9_book E) = t_bin 196 (fun x y => x - y) := funext fun _ => rfl
theorem lo_X9_book_196 (E : kx_E) : kx_look 196 (cd_X9_book E) = t_pI 199 8 146 := funext fun _ => rfl
theorem lo_X9_book_199 (E : kx_E) : kx_look 199 (cd_X9_book E) = t_vret := funext fun _ => rfl
