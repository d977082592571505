theorem lo_X9_isWithin_0 (E : kx_E) : kx_look 0 (cd_X9_isWithin E) = t_il 1 0 := funext fun _ => rfl
theorem lo_X9_isWithin_1 (E : kx_E) : kx_look 1 (cd_X9_isWithin E) = t_il 2 1 := funext fun _ => rfl
theorem lo_X9_isWithin_2 (E : kx_E) : kx_look 2 (cd_X9_isWithin E) = t_ic 5 14 (fun x y => x < y) := funext fun _ => rfl
theorem lo_X9_isWithin_5 (E : kx_E) : kx_look 5 (cd_X9_isWithin E) = t_il 6 0 := funext fun _ => rfl
theorem lo_X9_isWithin_6 (E : kx_E) : kx_look 6 (cd_X9_isWithin E) = t_il 7 2 := funext fun _ => rfl
theorem lo_X9_isWithin_7 (E : kx_E) : kx_look 7 (cd_X9_isWithin E) = t_ic 10 14 (fun x y => y < x) := funext fun _ => rfl
theorem lo_X9_isWithin_10 (E : kx_E) : kx_look 10 (cd_X9_isWithin E) = t_push 11 (.int 1) := funext fun _ => rfl
theorem lo_X9_isWithin_11 (E : kx_E) : kx_look 11 (cd_X9_isWithin E) = t_go 15 := funext fun _ => rfl
theorem lo_X9_isWithin_14 (E : kx_E) : kx_look 14 (cd_X9_isWithin E) = t_push 15 (.int 0) := funext fun _ => rfl
theorem lo_X9_isWithin_15 (E : kx_E) : kx_look 15 (cd_X9_isWithin E) = t_zret := funext fun _ => rfl
theorem lo_X9_isCultivar_0 (E : kx_E) : kx_look 0 (cd_X9_isCultivar E) = t_il 1 0 := funext fun _ => rfl
theorem lo_X9_isCultivar_1 (E : kx_E) : kx_look 1 (cd_X9_isCultivar E) = t_if 4 13 (fun x => x < 0) := funext fun _ => rfl
theorem lo_X9_isCultivar_4 (E : kx_E) : kx_look 4 (cd_X9_isCultivar E) = t_il 5 0 := funext fun _ => rfl
theorem lo_X9_isCultivar_5 (E : kx_E) : kx_look 5 (cd_X9_isCultivar E) = t_push 6 (.int 3) := funext fun _ => rfl
theorem lo_X9_isCultivar_6 (E : kx_E) : kx_look 6 (cd_X9_isCultivar E) = t_ic 9 13 (fun x y => y ≤ x) := funext fun _ => rfl
theorem lo_X9_isCultivar_9 (E : kx_E) : kx_look 9 (cd_X9_isCultivar E) = t_push 10 (.int 1) := funext fun _ => rfl
theorem lo_X9_isCultivar_10 (E : kx_E) : kx_look 10 (cd_X9_isCultivar E) = t_go 14 := funext fun _ => rfl
theorem lo_X9_isCultivar_13 (E : kx_E) : kx_look 13 (cd_X9_isCultivar E) = t_push 14 (.int 0) := funext fun _ => rfl
theorem lo_X9_isCultivar_14 (E : kx_E) : kx_look 14 (cd_X9_isCultivar E) = t_zret := funext fun _ => rfl
theorem lo_X9_bucketsFor_0 (E : kx_E) : kx_look 0 (cd_X9_bucketsFor E) = t_il 1 0 := funext fun _ => rfl
theorem lo_X9_bucketsFor_1 (E : kx_E) : kx_look 1 (cd_X9_bucketsFor E) = t_push 3 (.int 20) := funext fun _ => rfl
theorem lo_X9_bucketsFor_3 (E : kx_E) : kx_look 3 (cd_X9_bucketsFor E) = t_dv 4 (fun x y => x / y) := funext fun _ => rfl
theorem lo_X9_bucketsFor_4 (E : kx_E) : kx_look 4 (cd_X9_bucketsFor E) = t_il 5 0 := funext fun _ => rfl
theorem lo_X9_bucketsFor_5 (E : kx_E) : kx_look 5 (cd_X9_bucketsFor E) = t_push 7 (.int 20) := funext fun _ => rfl
theorem lo_X9_bucketsFor_7 (E : kx_E) : kx_look 7 (cd_X9_bucketsFor E) = t_dv 8 (fun x y => x - x / y * y) := funext fun _ => rfl
theorem lo_X9_bucketsFor_8 (E : kx_E) : kx_look 8 (cd_X9_bucketsFor E) = t_if 11 15 (fun x => x ≤ 0) := funext fun _ => rfl
theorem lo_X9_bucketsFor_11 (E : kx_E) : kx_look 11 (cd_X9_bucketsFor E) = t_push 12 (.int 1) := funext fun _ => rfl
theorem lo_X9_bucketsFor_12 (E : kx_E) : kx_look 12 (cd_X9_bucketsFor E) = t_go 16 := funext fun _ => rfl
theorem lo_X9_bucketsFor_15 (E : kx_E) : kx_look 15 (cd_X9_bucketsFor E) = t_push 16 (.int 0) := funext fun _ => rfl
theorem lo_X9_bucketsFor_16 (E : kx_E) : kx_look 16 (cd_X9_bucketsFor E) = t_bin 17 (fun x y => x + y) := funext fun _ => rfl
theorem lo_X9_bucketsFor_17 (E : kx_E) : kx_look 17 (cd_X9_bucketsFor E) = t_iret := funext fun _ => rfl
theorem lo_X9_shareOfGrower_0 (E : kx_E) : kx_look 0 (cd_X9_shareOfGrower E) = t_il 1 0 := funext fun _ => rfl
theorem lo_X9_shareOfGrower_1 (E : kx_E) : kx_look 1 (cd_X9_shareOfGrower E) = t_il 2 0 := funext fun _ => rfl
theorem lo_X9_shareOfGrower_2 (E : kx_E) : kx_look 2 (cd_X9_shareOfGrower E) = t_push 4 (.int 20) := funext fun _ => rfl
theorem lo_X9_shareOfGrower_4 (E : kx_E) : kx_look 4 (cd_X9_shareOfGrower E) = t_dv 5 (fun x y => x / y) := funext fun _ => rfl
theorem lo_X9_shareOfGrower_5 (E : kx_E) : kx_look 5 (cd_X9_shareOfGrower E) = t_bin 6 (fun x y => x - y) := funext fun _ => rfl
theorem lo_X9_shareOfGrower_6 (E : kx_E) : kx_look 6 (cd_X9_shareOfGrower E) = t_iret := funext fun _ => rfl
theorem lo_X9_sumAsked_0 (E : kx_E) : kx_look 0 (cd_X9_sumAsked E) = t_il 1 0 := funext fun _ => rfl
theorem lo_X9_sumAsked_1 (E : kx_E) : kx_look 1 (cd_X9_sumAsked E) = t_sw [(0, 28), (1, 31)] 34 := funext fun _ => rfl
theorem lo_X9_sumAsked_28 (E : kx_E) : kx_look 28 (cd_X9_sumAsked E) = t_push 30 (.int 60) := funext fun _ => rfl
theorem lo_X9_sumAsked_30 (E : kx_E) : kx_look 30 (cd_X9_sumAsked E) = t_iret := funext fun _ => rfl
theorem lo_X9_sumAsked_31 (E : kx_E) : kx_look 31 (cd_X9_sumAsked E) = t_push 33 (.int 90) := funext fun _ => rfl
theorem lo_X9_sumAsked_33 (E : kx_E) : kx_look 33 (cd_X9_sumAsked E) = t_iret := funext fun _ => rfl
theorem lo_X9_sumAsked_34 (E : kx_E) : kx_look 34 (cd_X9_sumAsked E) = t_push 36 (.int 120) := funext fun _ => rfl
theorem lo_X9_sumAsked_36 (E : kx_E) : kx_look 36 (cd_X9_sumAsked E) = t_iret := funext fun _ => rfl
theorem lo_X9_freshLife_0 (E : kx_E) : kx_look 0 (cd_X9_freshLife E) = t_il 1 0 := funext fun _ => rfl
theorem lo_X9_freshLife_1 (E : kx_E) : kx_look 1 (cd_X9_freshLife E) = t_sw [(0, 28), (1, 31)] 34 := funext fun _ => rfl
theorem lo_X9_freshLife_28 (E : kx_E) : kx_look 28 (cd_X9_freshLife E) = t_push 30 (.int 90) := funext fun _ => rfl
theorem lo_X9_freshLife_30 (E : kx_E) : kx_look 30 (cd_X9_freshLife E) = t_iret := funext fun _ => rfl
theorem lo_X9_freshLife_31 (E : kx_E) : kx_look 31 (cd_X9_freshLife E) = t_push 33 (.int 70) := funext fun _ => rfl
theorem lo_X9_freshLife_33 (E : kx_E) : kx_look 33 (cd_X9_freshLife E) = t_iret := funext fun _ => rfl
theorem lo_X9_freshLife_34 (E : kx_E) : kx_look 34 (cd_X9_freshLife E) = t_push 36 (.int 110) := funext fun _ => rfl
theorem lo_X9_freshLife_36 (E : kx_E) : kx_look 36 (cd_X9_freshLife E) = t_iret := funext fun _ => rfl
theorem lo_X9_lifeLostIn_0 (E : kx_E) : kx_look 0 (cd_X9_lifeLostIn E) = t_il 1 0 := funext fun _ => rfl
theorem lo_X9_lifeLostIn_1 (E : kx_E) : kx_look 1 (cd_X9_lifeLostIn E) = t_sw [(0, 28), (1, 30)] 32 := funext fun _ => rfl
theorem lo_X9_lifeLostIn_28 (E : kx_E) : kx_look 28 (cd_X9_lifeLostIn E) = t_push 29 (.int 1) := funext fun _ => rfl
theorem lo_X9_lifeLostIn_29 (E : kx_E) : kx_look 29 (cd_X9_lifeLostIn E) = t_iret := funext fun _ => rfl
theorem lo_X9_lifeLostIn_30 (E : kx_E) : kx_look 30 (cd_X9_lifeLostIn E) = t_push 31 (.int 3) := funext fun _ => rfl
theorem lo_X9_lifeLostIn_31 (E : kx_E) : kx_look 31 (cd_X9_lifeLostIn E) = t_iret := funext fun _ => rfl
theorem lo_X9_lifeLostIn_32 (E : kx_E) : kx_look 32 (cd_X9_lifeLostIn E) = t_push 34 (.int 6) := funext fun _ => rfl
theorem lo_X9_lifeLostIn_34 (E : kx_E) : kx_look 34 (cd_X9_lifeLostIn E) = t_iret := funext fun _ => rfl
theorem lo_X9_mixed_0 (E : kx_E) : kx_look 0 (cd_X9_mixed E) = t_ll 1 0 := funext fun _ => rfl
theorem lo_X9_mixed_1 (E : kx_E) : kx_look 1 (cd_X9_mixed E) = t_push 4 (.long 31) := funext fun _ => rfl
theorem lo_X9_mixed_4 (E : kx_E) : kx_look 4 (cd_X9_mixed E) = t_lbin 5 (fun x y => x * y) := funext fun _ => rfl
theorem lo_X9_mixed_5 (E : kx_E) : kx_look 5 (cd_X9_mixed E) = t_ll 6 2 := funext fun _ => rfl
theorem lo_X9_mixed_6 (E : kx_E) : kx_look 6 (cd_X9_mixed E) = t_lbin 7 (fun x y => x + y) := funext fun _ => rfl
theorem lo_X9_mixed_7 (E : kx_E) : kx_look 7 (cd_X9_mixed E) = t_lret := funext fun _ => rfl
theorem lo_X0_numberOf_0 (E : kx_E) : kx_look 0 (cd_X0_numberOf E) = t_il 1 1 := funext fun _ => rfl
theorem lo_X0_numberOf_1 (E : kx_E) : kx_look 1 (cd_X0_numberOf E) = t_sw [(0, 52), (1, 57), (2, 62), (3, 67), (4, 82), (5, 82), (6, 82), (7, 72), (8, 77)] 82 := funext fun _ => rfl
theorem lo_X0_numberOf_52 (E : kx_E) : kx_look 52 (cd_X0_numberOf E) = t_al 53 0 := funext fun _ => rfl
theorem lo_X0_numberOf_53 (E : kx_E) : kx_look 53 (cd_X0_numberOf E) = t_gI 56 2 23 := funext fun _ => rfl
theorem lo_X0_numberOf_56 (E : kx_E) : kx_look 56 (cd_X0_numberOf E) = t_iret := funext fun _ => rfl
theorem lo_X0_numberOf_57 (E : kx_E) : kx_look 57 (cd_X0_numberOf E) = t_al 58 0 := funext fun _ => rfl
theorem lo_X0_numberOf_58 (E : kx_E) : kx_look 58 (cd_X0_numberOf E) = t_gI 61 2 21 := funext fun _ => rfl
theorem lo_X0_numberOf_61 (E : kx_E) : kx_look 61 (cd_X0_numberOf E) = t_iret := funext fun _ => rfl
theorem lo_X0_numberOf_62 (E : kx_E) : kx_look 62 (cd_X0_numberOf E) = t_al 63 0 := funext fun _ => rfl
theorem lo_X0_numberOf_63 (E : kx_E) : kx_look 63 (cd_X0_numberOf E) = t_gI 66 2 24 := funext fun _ => rfl
theorem lo_X0_numberOf_66 (E : kx_E) : kx_look 66 (cd_X0_numberOf E) = t_iret := funext fun _ => rfl
theorem lo_X0_numberOf_67 (E : kx_E) : kx_look 67 (cd_X0_numberOf E) = t_al 68 0 := funext fun _ => rfl
theorem lo_X0_numberOf_68 (E : kx_E) : kx_look 68 (cd_X0_numberOf E) = t_gI 71 2 25 := funext fun _ => rfl
theorem lo_X0_numberOf_71 (E : kx_E) : kx_look 71 (cd_X0_numberOf E) = t_iret := funext fun _ => rfl
theorem lo_X0_numberOf_72 (E : kx_E) : kx_look 72 (cd_X0_numberOf E) = t_al 73 0 := funext fun _ => rfl
theorem lo_X0_numberOf_73 (E : kx_E) : kx_look 73 (cd_X0_numberOf E) = t_gI 76 2 26 := funext fun _ => rfl
theorem lo_X0_numberOf_76 (E : kx_E) : kx_look 76 (cd_X0_numberOf E) = t_iret := funext fun _ => rfl
theorem lo_X0_numberOf_77 (E : kx_E) : kx_look 77 (cd_X0_numberOf E) = t_al 78 0 := funext fun _ => rfl
theorem lo_X0_numberOf_78 (E : kx_E) : kx_look 78 (cd_X0_numberOf E) = t_gI 81 2 27 := funext fun _ => rfl
theorem lo_X0_numberOf_81 (E : kx_E) : kx_look 81 (cd_X0_numberOf E) = t_iret := funext fun _ => rfl
theorem lo_X0_numberOf_82 (E : kx_E) : kx_look 82 (cd_X0_numberOf E) = t_al 83 0 := funext fun _ => rfl
theorem lo_X0_numberOf_83 (E : kx_E) : kx_look 83 (cd_X0_numberOf E) = t_gR 86 2 22 := funext fun _ => rfl
theorem lo_X0_numberOf_86 (E : kx_E) : kx_look 86 (cd_X0_numberOf E) = t_il 87 1 := funext fun _ => rfl
theorem lo_X0_numberOf_87 (E : kx_E) : kx_look 87 (cd_X0_numberOf E) = t_push 88 (.int 4) := funext fun _ => rfl
theorem lo_X0_numberOf_88 (E : kx_E) : kx_look 88 (cd_X0_numberOf E) = t_bin 89 (fun x y => x - y) := funext fun _ => rfl
theorem lo_X0_numberOf_89 (E : kx_E) : kx_look 89 (cd_X0_numberOf E) = t_fun (f2_X1_of E) 0 0 92 2 := funext fun _ => rfl
theorem lo_X0_numberOf_92 (E : kx_E) : kx_look 92 (cd_X0_numberOf E) = t_iret := funext fun _ => rfl
theorem lo_X4_numberOf_0 (E : kx_E) : kx_look 0 (cd_X4_numberOf E) = t_il 1 1 := funext fun _ => rfl
theorem lo_X4_numberOf_1 (E : kx_E) : kx_look 1 (cd_X4_numberOf E) = t_sw [(0, 32), (1, 37), (2, 42), (3, 47)] 52 := funext fun _ => rfl
theorem lo_X4_numberOf_32 (E : kx_E) : kx_look 32 (cd_X4_numberOf E) = t_al 33 0 := funext fun _ => rfl
theorem lo_X4_numberOf_33 (E : kx_E) : kx_look 33 (cd_X4_numberOf E) = t_gI 36 6 101 := funext fun _ => rfl
theorem lo_X4_numberOf_36 (E : kx_E) : kx_look 36 (cd_X4_numberOf E) = t_iret := funext fun _ => rfl
theorem lo_X4_numberOf_37 (E : kx_E) : kx_look 37 (cd_X4_numberOf E) = t_al 38 0 := funext fun _ => rfl
theorem lo_X4_numberOf_38 (E : kx_E) : kx_look 38 (cd_X4_numberOf E) = t_gI 41 6 102 := funext fun _ => rfl
theorem lo_X4_numberOf_41 (E : kx_E) : kx_look 41 (cd_X4_numberOf E) = t_iret := funext fun _ => rfl
theorem lo_X4_numberOf_42 (E : kx_E) : kx_look 42 (cd_X4_numberOf E) = t_al 43 0 := funext fun _ => rfl
theorem lo_X4_numberOf_43 (E : kx_E) : kx_look 43 (cd_X4_numberOf E) = t_gI 46 6 103 := funext fun _ => rfl
theorem lo_X4_numberOf_46 (E : kx_E) : kx_look 46 (cd_X4_numberOf E) = t_iret := funext fun _ => rfl
theorem lo_X4_numberOf_47 (E : kx_E) : kx_look 47 (cd_X4_numberOf E) = t_al 48 0 := funext fun _ => rfl
theorem lo_X4_numberOf_48 (E : kx_E) : kx_look 48 (cd_X4_numberOf E) = t_gI 51 6 104 := funext fun _ => rfl
theorem lo_X4_numberOf_51 (E : kx_E) : kx_look 51 (cd_X4_numberOf E) = t_iret := funext fun _ => rfl
theorem lo_X4_numberOf_52 (E : kx_E) : kx_look 52 (cd_X4_numberOf E) = t_al 53 0 := funext fun _ => rfl
theorem lo_X4_numberOf_53 (E : kx_E) : kx_look 53 (cd_X4_numberOf E) = t_gR 56 6 100 := funext fun _ => rfl
theorem lo_X4_numberOf_56 (E : kx_E) : kx_look 56 (cd_X4_numberOf E) = t_fun (f2_X1_total E) 0 0 59 1 := funext fun _ => rfl
theorem lo_X4_numberOf_59 (E : kx_E) : kx_look 59 (cd_X4_numberOf E) = t_iret := funext fun _ => rfl
theorem lo_X3_numberOf_0 (E : kx_E) : kx_look 0 (cd_X3_numberOf E) = t_il 1 1 := funext fun _ => rfl
theorem lo_X3_numberOf_1 (E : kx_E) : kx_look 1 (cd_X3_numberOf E) = t_sw [(0, 36), (1, 41), (2, 46), (3, 51), (4, 56)] 69 := funext fun _ => rfl
theorem lo_X3_numberOf_36 (E : kx_E) : kx_look 36 (cd_X3_numberOf E) = t_al 37 0 := funext fun _ => rfl
theorem lo_X3_numberOf_37 (E : kx_E) : kx_look 37 (cd_X3_numberOf E) = t_gI 40 5 81 := funext fun _ => rfl
theorem lo_X3_numberOf_40 (E : kx_E) : kx_look 40 (cd_X3_numberOf E) = t_iret := funext fun _ => rfl
theorem lo_X3_numberOf_41 (E : kx_E) : kx_look 41 (cd_X3_numberOf E) = t_al 42 0 := funext fun _ => rfl
theorem lo_X3_numberOf_42 (E : kx_E) : kx_look 42 (cd_X3_numberOf E) = t_gI 45 5 82 := funext fun _ => rfl
theorem lo_X3_numberOf_45 (E : kx_E) : kx_look 45 (cd_X3_numberOf E) = t_iret := funext fun _ => rfl
theorem lo_X3_numberOf_46 (E : kx_E) : kx_look 46 (cd_X3_numberOf E) = t_al 47 0 := funext fun _ => rfl
theorem lo_X3_numberOf_47 (E : kx_E) : kx_look 47 (cd_X3_numberOf E) = t_gI 50 5 83 := funext fun _ => rfl
theorem lo_X3_numberOf_50 (E : kx_E) : kx_look 50 (cd_X3_numberOf E) = t_iret := funext fun _ => rfl
theorem lo_X3_numberOf_51 (E : kx_E) : kx_look 51 (cd_X3_numberOf E) = t_al 52 0 := funext fun _ => rfl
theorem lo_X3_numberOf_52 (E : kx_E) : kx_look 52 (cd_X3_numberOf E) = t_gI 55 5 84 := funext fun _ => rfl
theorem lo_X3_numberOf_55 (E : kx_E) : kx_look 55 (cd_X3_numberOf E) = t_iret := funext fun _ => rfl
theorem lo_X3_numberOf_56 (E : kx_E) : kx_look 56 (cd_X3_numberOf E) = t_al 57 0 := funext fun _ => rfl
theorem lo_X3_numberOf_57 (E : kx_E) : kx_look 57 (cd_X3_numberOf E) = t_gI 60 5 85 := funext fun _ => rfl
theorem lo_X3_numberOf_60 (E : kx_E) : kx_look 60 (cd_X3_numberOf E) = t_if 63 67 (fun x => x = 0) := funext fun _ => rfl
theorem lo_X3_numberOf_63 (E : kx_E) : kx_look 63 (cd_X3_numberOf E) = t_push 64 (.int 1) := funext fun _ => rfl
theorem lo_X3_numberOf_64 (E : kx_E) : kx_look 64 (cd_X3_numberOf E) = t_go 68 := funext fun _ => rfl
theorem lo_X3_numberOf_67 (E : kx_E) : kx_look 67 (cd_X3_numberOf E) = t_push 68 (.int 0) := funext fun _ => rfl
theorem lo_X3_numberOf_68 (E : kx_E) : kx_look 68 (cd_X3_numberOf E) = t_iret := funext fun _ => rfl
theorem lo_X3_numberOf_69 (E : kx_E) : kx_look 69 (cd_X3_numberOf E) = t_al 70 0 := funext fun _ => rfl
theorem lo_X3_numberOf_70 (E : kx_E) : kx_look 70 (cd_X3_numberOf E) = t_gI 73 5 86 := funext fun _ => rfl
theorem lo_X3_numberOf_73 (E : kx_E) : kx_look 73 (cd_X3_numberOf E) = t_iret := funext fun _ => rfl
theorem lo_X5_numberOf_0 (E : kx_E) : kx_look 0 (cd_X5_numberOf E) = t_il 1 1 := funext fun _ => rfl
theorem lo_X5_numberOf_1 (E : kx_E) : kx_look 1 (cd_X5_numberOf E) = t_sw [(0, 52), (1, 57), (2, 62), (3, 67), (4, 72), (5, 77), (6, 82), (7, 87), (8, 92)] 97 := funext fun _ => rfl
theorem lo_X5_numberOf_52 (E : kx_E) : kx_look 52 (cd_X5_numberOf E) = t_al 53 0 := funext fun _ => rfl
theorem lo_X5_numberOf_53 (E : kx_E) : kx_look 53 (cd_X5_numberOf E) = t_gI 56 7 122 := funext fun _ => rfl
theorem lo_X5_numberOf_56 (E : kx_E) : kx_look 56 (cd_X5_numberOf E) = t_iret := funext fun _ => rfl
theorem lo_X5_numberOf_57 (E : kx_E) : kx_look 57 (cd_X5_numberOf E) = t_al 58 0 := funext fun _ => rfl
theorem lo_X5_numberOf_58 (E : kx_E) : kx_look 58 (cd_X5_numberOf E) = t_gI 61 7 123 := funext fun _ => rfl
theorem lo_X5_numberOf_61 (E : kx_E) : kx_look 61 (cd_X5_numberOf E) = t_iret := funext fun _ => rfl
theorem lo_X5_numberOf_62 (E : kx_E) : kx_look 62 (cd_X5_numberOf E) = t_al 63 0 := funext fun _ => rfl
theorem lo_X5_numberOf_63 (E : kx_E) : kx_look 63 (cd_X5_numberOf E) = t_gI 66 7 125 := funext fun _ => rfl
theorem lo_X5_numberOf_66 (E : kx_E) : kx_look 66 (cd_X5_numberOf E) = t_iret := funext fun _ => rfl
theorem lo_X5_numberOf_67 (E : kx_E) : kx_look 67 (cd_X5_numberOf E) = t_al 68 0 := funext fun _ => rfl
theorem lo_X5_numberOf_68 (E : kx_E) : kx_look 68 (cd_X5_numberOf E) = t_gI 71 7 124 := funext fun _ => rfl
theorem lo_X5_numberOf_71 (E : kx_E) : kx_look 71 (cd_X5_numberOf E) = t_iret := funext fun _ => rfl
theorem lo_X5_numberOf_72 (E : kx_E) : kx_look 72 (cd_X5_numberOf E) = t_al 73 0 := funext fun _ => rfl
theorem lo_X5_numberOf_73 (E : kx_E) : kx_look 73 (cd_X5_numberOf E) = t_gI 76 7 126 := funext fun _ => rfl
theorem lo_X5_numberOf_76 (E : kx_E) : kx_look 76 (cd_X5_numberOf E) = t_iret := funext fun _ => rfl
theorem lo_X5_numberOf_77 (E : kx_E) : kx_look 77 (cd_X5_numberOf E) = t_al 78 0 := funext fun _ => rfl
theorem lo_X5_numberOf_78 (E : kx_E) : kx_look 78 (cd_X5_numberOf E) = t_gI 81 7 127 := funext fun _ => rfl
theorem lo_X5_numberOf_81 (E : kx_E) : kx_look 81 (cd_X5_numberOf E) = t_iret := funext fun _ => rfl
theorem lo_X5_numberOf_82 (E : kx_E) : kx_look 82 (cd_X5_numberOf E) = t_al 83 0 := funext fun _ => rfl
theorem lo_X5_numberOf_83 (E : kx_E) : kx_look 83 (cd_X5_numberOf E) = t_gI 86 7 128 := funext fun _ => rfl
theorem lo_X5_numberOf_86 (E : kx_E) : kx_look 86 (cd_X5_numberOf E) = t_iret := funext fun _ => rfl
theorem lo_X5_numberOf_87 (E : kx_E) : kx_look 87 (cd_X5_numberOf E) = t_al 88 0 := funext fun _ => rfl
theorem lo_X5_numberOf_88 (E : kx_E) : kx_look 88 (cd_X5_numberOf E) = t_gI 91 7 129 := funext fun _ => rfl
theorem lo_X5_numberOf_91 (E : kx_E) : kx_look 91 (cd_X5_numberOf E) = t_iret := funext fun _ => rfl
theorem lo_X5_numberOf_92 (E : kx_E) : kx_look 92 (cd_X5_numberOf E) = t_al 93 0 := funext fun _ => rfl
theorem lo_X5_numberOf_93 (E : kx_E) : kx_look 93 (cd_X5_numberOf E) = t_gI 96 7 130 := funext fun _ => rfl
theorem lo_X5_numberOf_96 (E : kx_E) : kx_look 96 (cd_X5_numberOf E) = t_iret := funext fun _ => rfl
theorem lo_X5_numberOf_97 (E : kx_E) : kx_look 97 (cd_X5_numberOf E) = t_al 98 0 := funext fun _ => rfl
theorem lo_X5_numberOf_98 (E : kx_E) : kx_look 98 (cd_X5_numberOf E) = t_gI 101 7 131 := funext fun _ => rfl
theorem lo_X5_numberOf_101 (E : kx_E) : kx_look 101 (cd_X5_numberOf E) = t_iret := funext fun _ => rfl
theorem lo_X7_numberOf_0 (E : kx_E) : kx_look 0 (cd_X7_numberOf E) = t_il 1 1 := funext fun _ => rfl
theorem lo_X7_numberOf_1 (E : kx_E) : kx_look 1 (cd_X7_numberOf E) = t_sw [(0, 32), (1, 40), (2, 48), (3, 53)] 58 := funext fun _ => rfl
theorem lo_X7_numberOf_32 (E : kx_E) : kx_look 32 (cd_X7_numberOf E) = t_al 33 0 := funext fun _ => rfl
theorem lo_X7_numberOf_33 (E : kx_E) : kx_look 33 (cd_X7_numberOf E) = t_gR 36 9 160 := funext fun _ => rfl
theorem lo_X7_numberOf_36 (E : kx_E) : kx_look 36 (cd_X7_numberOf E) = t_gI 39 7 120 := funext fun _ => rfl
theorem lo_X7_numberOf_39 (E : kx_E) : kx_look 39 (cd_X7_numberOf E) = t_iret := funext fun _ => rfl
theorem lo_X7_numberOf_40 (E : kx_E) : kx_look 40 (cd_X7_numberOf E) = t_al 41 0 := funext fun _ => rfl
theorem lo_X7_numberOf_41 (E : kx_E) : kx_look 41 (cd_X7_numberOf E) = t_gR 44 9 161 := funext fun _ => rfl
theorem lo_X7_numberOf_44 (E : kx_E) : kx_look 44 (cd_X7_numberOf E) = t_gI 47 2 20 := funext fun _ => rfl
theorem lo_X7_numberOf_47 (E : kx_E) : kx_look 47 (cd_X7_numberOf E) = t_iret := funext fun _ => rfl
theorem lo_X7_numberOf_48 (E : kx_E) : kx_look 48 (cd_X7_numberOf E) = t_al 49 0 := funext fun _ => rfl
theorem lo_X7_numberOf_49 (E : kx_E) : kx_look 49 (cd_X7_numberOf E) = t_gI 52 9 163 := funext fun _ => rfl
theorem lo_X7_numberOf_52 (E : kx_E) : kx_look 52 (cd_X7_numberOf E) = t_iret := funext fun _ => rfl
theorem lo_X7_numberOf_53 (E : kx_E) : kx_look 53 (cd_X7_numberOf E) = t_al 54 0 := funext fun _ => rfl
theorem lo_X7_numberOf_54 (E : kx_E) : kx_look 54 (cd_X7_numberOf E) = t_gI 57 9 164 := funext fun _ => rfl
theorem lo_X7_numberOf_57 (E : kx_E) : kx_look 57 (cd_X7_numberOf E) = t_iret := funext fun _ => rfl
theorem lo_X7_numberOf_58 (E : kx_E) : kx_look 58 (cd_X7_numberOf E) = t_al 59 0 := funext fun _ => rfl
theorem lo_X7_numberOf_59 (E : kx_E) : kx_look 59 (cd_X7_numberOf E) = t_gI 62 9 165 := funext fun _ => rfl
theorem lo_X7_numberOf_62 (E : kx_E) : kx_look 62 (cd_X7_numberOf E) = t_iret := funext fun _ => rfl
theorem lo_X2_stampOf_0 (E : kx_E) : kx_look 0 (cd_X2_stampOf E) = t_al 1 0 := funext fun _ => rfl
theorem lo_X2_stampOf_1 (E : kx_E) : kx_look 1 (cd_X2_stampOf E) = t_gI 4 4 65 := funext fun _ => rfl
theorem lo_X2_stampOf_4 (E : kx_E) : kx_look 4 (cd_X2_stampOf E) = t_al 5 1 := funext fun _ => rfl
theorem lo_X2_stampOf_5 (E : kx_E) : kx_look 5 (cd_X2_stampOf E) = t_gI 8 8 145 := funext fun _ => rfl
theorem lo_X2_stampOf_8 (E : kx_E) : kx_look 8 (cd_X2_stampOf E) = t_bin 9 (fun x y => x - y) := funext fun _ => rfl
theorem lo_X2_stampOf_9 (E : kx_E) : kx_look 9 (cd_X2_stampOf E) = t_al 10 1 := funext fun _ => rfl
theorem lo_X2_stampOf_10 (E : kx_E) : kx_look 10 (cd_X2_stampOf E) = t_gR 13 8 140 := funext fun _ => rfl
theorem lo_X2_stampOf_13 (E : kx_E) : kx_look 13 (cd_X2_stampOf E) = t_gI 16 2 29 := funext fun _ => rfl
theorem lo_X2_stampOf_16 (E : kx_E) : kx_look 16 (cd_X2_stampOf E) = t_bin 17 (fun x y => x + y) := funext fun _ => rfl
theorem lo_X2_stampOf_17 (E : kx_E) : kx_look 17 (cd_X2_stampOf E) = t_iret := funext fun _ => rfl
theorem lo_X2_fits_0 (E : kx_E) : kx_look 0 (cd_X2_fits E) = t_al 1 1 := funext fun _ => rfl
theorem lo_X2_fits_1 (E : kx_E) : kx_look 1 (cd_X2_fits E) = t_gI 4 8 147 := funext fun _ => rfl
theorem lo_X2_fits_4 (E : kx_E) : kx_look 4 (cd_X2_fits E) = t_if 7 65 (fun x => x ≤ 0) := funext fun _ => rfl
theorem lo_X2_fits_7 (E : kx_E) : kx_look 7 (cd_X2_fits E) = t_al 8 1 := funext fun _ => rfl
theorem lo_X2_fits_8 (E : kx_E) : kx_look 8 (cd_X2_fits E) = t_gR 11 8 140 := funext fun _ => rfl
theorem lo_X2_fits_11 (E : kx_E) : kx_look 11 (cd_X2_fits E) = t_gI 14 2 30 := funext fun _ => rfl
theorem lo_X2_fits_14 (E : kx_E) : kx_look 14 (cd_X2_fits E) = t_if 17 65 (fun x => x ≠ 0) := funext fun _ => rfl
theorem lo_X2_fits_17 (E : kx_E) : kx_look 17 (cd_X2_fits E) = t_al 18 1 := funext fun _ => rfl
theorem lo_X2_fits_18 (E : kx_E) : kx_look 18 (cd_X2_fits E) = t_gI 21 8 141 := funext fun _ => rfl
theorem lo_X2_fits_21 (E : kx_E) : kx_look 21 (cd_X2_fits E) = t_al 22 0 := funext fun _ => rfl
theorem lo_X2_fits_22 (E : kx_E) : kx_look 22 (cd_X2_fits E) = t_gI 25 4 60 := funext fun _ => rfl
theorem lo_X2_fits_25 (E : kx_E) : kx_look 25 (cd_X2_fits E) = t_ic 28 65 (fun x y => x ≠ y) := funext fun _ => rfl
theorem lo_X2_fits_28 (E : kx_E) : kx_look 28 (cd_X2_fits E) = t_al 29 1 := funext fun _ => rfl
theorem lo_X2_fits_29 (E : kx_E) : kx_look 29 (cd_X2_fits E) = t_gI 32 8 142 := funext fun _ => rfl
theorem lo_X2_fits_32 (E : kx_E) : kx_look 32 (cd_X2_fits E) = t_al 33 0 := funext fun _ => rfl
theorem lo_X2_fits_33 (E : kx_E) : kx_look 33 (cd_X2_fits E) = t_gI 36 4 61 := funext fun _ => rfl
theorem lo_X2_fits_36 (E : kx_E) : kx_look 36 (cd_X2_fits E) = t_ic 39 65 (fun x y => x < y) := funext fun _ => rfl
theorem lo_X2_fits_39 (E : kx_E) : kx_look 39 (cd_X2_fits E) = t_al 40 1 := funext fun _ => rfl
theorem lo_X2_fits_40 (E : kx_E) : kx_look 40 (cd_X2_fits E) = t_gI 43 8 143 := funext fun _ => rfl
theorem lo_X2_fits_43 (E : kx_E) : kx_look 43 (cd_X2_fits E) = t_al 44 0 := funext fun _ => rfl
theorem lo_X2_fits_44 (E : kx_E) : kx_look 44 (cd_X2_fits E) = t_gI 47 4 62 := funext fun _ => rfl
theorem lo_X2_fits_47 (E : kx_E) : kx_look 47 (cd_X2_fits E) = t_ic 50 65 (fun x y => y < x) := funext fun _ => rfl
theorem lo_X2_fits_50 (E : kx_E) : kx_look 50 (cd_X2_fits E) = t_al 51 1 := funext fun _ => rfl
theorem lo_X2_fits_51 (E : kx_E) : kx_look 51 (cd_X2_fits E) = t_gI 54 8 144 := funext fun _ => rfl
theorem lo_X2_fits_54 (E : kx_E) : kx_look 54 (cd_X2_fits E) = t_al 55 0 := funext fun _ => rfl
theorem lo_X2_fits_55 (E : kx_E) : kx_look 55 (cd_X2_fits E) = t_gI 58 4 63 := funext fun _ => rfl
theorem lo_X2_fits_58 (E : kx_E) : kx_look 58 (cd_X2_fits E) = t_ic 61 65 (fun x y => y < x) := funext fun _ => rfl
theorem lo_X2_fits_61 (E : kx_E) : kx_look 61 (cd_X2_fits E) = t_push 62 (.int 1) := funext fun _ => rfl
theorem lo_X2_fits_62 (E : kx_E) : kx_look 62 (cd_X2_fits E) = t_go 66 := funext fun _ => rfl
theorem lo_X2_fits_65 (E : kx_E) : kx_look 65 (cd_X2_fits E) = t_push 66 (.int 0) := funext fun _ => rfl
theorem lo_X2_fits_66 (E : kx_E) : kx_look 66 (cd_X2_fits E) = t_zret := funext fun _ => rfl
theorem lo_X2_init_0 (E : kx_E) : kx_look 0 (cd_X2_init E) = t_al 1 0 := funext fun _ => rfl
theorem lo_X2_init_1 (E : kx_E) : kx_look 1 (cd_X2_init E) = t_oin 4 := funext fun _ => rfl
theorem lo_X2_init_4 (E : kx_E) : kx_look 4 (cd_X2_init E) = t_vret := funext fun _ => rfl
theorem lo_X0_init_0 (E : kx_E) : kx_look 0 (cd_X0_init E) = t_al 1 0 := funext fun _ => rfl
theorem lo_X0_init_1 (E : kx_E) : kx_look 1 (cd_X0_init E) = t_oin 4 := funext fun _ => rfl
theorem lo_X0_init_4 (E : kx_E) : kx_look 4 (cd_X0_init E) = t_al 5 0 := funext fun _ => rfl
theorem lo_X0_init_5 (E : kx_E) : kx_look 5 (cd_X0_init E) = t_new 8 13 1 := funext fun _ => rfl
theorem lo_X0_init_8 (E : kx_E) : kx_look 8 (cd_X0_init E) = t_dup 9 := funext fun _ => rfl
theorem lo_X0_init_9 (E : kx_E) : kx_look 9 (cd_X0_init E) = t_push 10 (.int 0) := funext fun _ => rfl
theorem lo_X0_init_10 (E : kx_E) : kx_look 10 (cd_X0_init E) = t_fun (f2_X1_init E) 1 3 13 2 := funext fun _ => rfl
theorem lo_X0_init_13 (E : kx_E) : kx_look 13 (cd_X0_init E) = t_pR 16 2 22 := funext fun _ => rfl
theorem lo_X0_init_16 (E : kx_E) : kx_look 16 (cd_X0_init E) = t_al 17 0 := funext fun _ => rfl
theorem lo_X0_init_17 (E : kx_E) : kx_look 17 (cd_X0_init E) = t_push 20 (.int 2000) := funext fun _ => rfl
theorem lo_X0_init_20 (E : kx_E) : kx_look 20 (cd_X0_init E) = t_pI 23 2 23 := funext fun _ => rfl
theorem lo_X0_init_23 (E : kx_E) : kx_look 23 (cd_X0_init E) = t_al 24 0 := funext fun _ => rfl
theorem lo_X0_init_24 (E : kx_E) : kx_look 24 (cd_X0_init E) = t_push 25 (.int (-1)) := funext fun _ => rfl
theorem lo_X0_init_25 (E : kx_E) : kx_look 25 (cd_X0_init E) = t_pI 28 2 25 := funext fun _ => rfl
theorem lo_X0_init_28 (E : kx_E) : kx_look 28 (cd_X0_init E) = t_al 29 0 := funext fun _ => rfl
theorem lo_X0_init_29 (E : kx_E) : kx_look 29 (cd_X0_init E) = t_il 30 1 := funext fun _ => rfl
theorem lo_X0_init_30 (E : kx_E) : kx_look 30 (cd_X0_init E) = t_pI 33 2 20 := funext fun _ => rfl
theorem lo_X0_init_33 (E : kx_E) : kx_look 33 (cd_X0_init E) = t_al 34 0 := funext fun _ => rfl
theorem lo_X0_init_34 (E : kx_E) : kx_look 34 (cd_X0_init E) = t_il 35 2 := funext fun _ => rfl
theorem lo_X0_init_35 (E : kx_E) : kx_look 35 (cd_X0_init E) = t_pI 38 2 21 := funext fun _ => rfl
theorem lo_X0_init_38 (E : kx_E) : kx_look 38 (cd_X0_init E) = t_vret := funext fun _ => rfl
theorem lo_X4_init_0 (E : kx_E) : kx_look 0 (cd_X4_init E) = t_al 1 0 := funext fun _ => rfl
theorem lo_X4_init_1 (E : kx_E) : kx_look 1 (cd_X4_init E) = t_oin 4 := funext fun _ => rfl
theorem lo_X4_init_4 (E : kx_E) : kx_look 4 (cd_X4_init E) = t_al 5 0 := funext fun _ => rfl
theorem lo_X4_init_5 (E : kx_E) : kx_look 5 (cd_X4_init E) = t_new 8 13 1 := funext fun _ => rfl
theorem lo_X4_init_8 (E : kx_E) : kx_look 8 (cd_X4_init E) = t_dup 9 := funext fun _ => rfl
theorem lo_X4_init_9 (E : kx_E) : kx_look 9 (cd_X4_init E) = t_push 10 (.int 0) := funext fun _ => rfl
theorem lo_X4_init_10 (E : kx_E) : kx_look 10 (cd_X4_init E) = t_fun (f2_X1_init E) 1 3 13 2 := funext fun _ => rfl
theorem lo_X4_init_13 (E : kx_E) : kx_look 13 (cd_X4_init E) = t_pR 16 6 100 := funext fun _ => rfl
theorem lo_X4_init_16 (E : kx_E) : kx_look 16 (cd_X4_init E) = t_al 17 0 := funext fun _ => rfl
theorem lo_X4_init_17 (E : kx_E) : kx_look 17 (cd_X4_init E) = t_push 19 (.int 100) := funext fun _ => rfl
theorem lo_X4_init_19 (E : kx_E) : kx_look 19 (cd_X4_init E) = t_pI 22 6 101 := funext fun _ => rfl
theorem lo_X4_init_22 (E : kx_E) : kx_look 22 (cd_X4_init E) = t_al 23 0 := funext fun _ => rfl
theorem lo_X4_init_23 (E : kx_E) : kx_look 23 (cd_X4_init E) = t_push 25 (.int 50) := funext fun _ => rfl
theorem lo_X4_init_25 (E : kx_E) : kx_look 25 (cd_X4_init E) = t_pI 28 6 103 := funext fun _ => rfl
theorem lo_X4_init_28 (E : kx_E) : kx_look 28 (cd_X4_init E) = t_vret := funext fun _ => rfl
theorem lo_X3_init_0 (E : kx_E) : kx_look 0 (cd_X3_init E) = t_al 1 0 := funext fun _ => rfl
theorem lo_X3_init_1 (E : kx_E) : kx_look 1 (cd_X3_init E) = t_oin 4 := funext fun _ => rfl
theorem lo_X3_init_4 (E : kx_E) : kx_look 4 (cd_X3_init E) = t_al 5 0 := funext fun _ => rfl
theorem lo_X3_init_5 (E : kx_E) : kx_look 5 (cd_X3_init E) = t_al 6 1 := funext fun _ => rfl
theorem lo_X3_init_6 (E : kx_E) : kx_look 6 (cd_X3_init E) = t_pR 9 5 80 := funext fun _ => rfl
theorem lo_X3_init_9 (E : kx_E) : kx_look 9 (cd_X3_init E) = t_al 10 0 := funext fun _ => rfl
theorem lo_X3_init_10 (E : kx_E) : kx_look 10 (cd_X3_init E) = t_il 11 2 := funext fun _ => rfl
theorem lo_X3_init_11 (E : kx_E) : kx_look 11 (cd_X3_init E) = t_pI 14 5 81 := funext fun _ => rfl
theorem lo_X3_init_14 (E : kx_E) : kx_look 14 (cd_X3_init E) = t_al 15 0 := funext fun _ => rfl
theorem lo_X3_init_15 (E : kx_E) : kx_look 15 (cd_X3_init E) = t_il 16 3 := funext fun _ => rfl
theorem lo_X3_init_16 (E : kx_E) : kx_look 16 (cd_X3_init E) = t_pI 19 5 82 := funext fun _ => rfl
theorem lo_X3_init_19 (E : kx_E) : kx_look 19 (cd_X3_init E) = t_al 20 0 := funext fun _ => rfl
theorem lo_X3_init_20 (E : kx_E) : kx_look 20 (cd_X3_init E) = t_il 22 4 := funext fun _ => rfl
theorem lo_X3_init_22 (E : kx_E) : kx_look 22 (cd_X3_init E) = t_pI 25 5 83 := funext fun _ => rfl
theorem lo_X3_init_25 (E : kx_E) : kx_look 25 (cd_X3_init E) = t_vret := funext fun _ => rfl
theorem lo_X6_init_0 (E : kx_E) : kx_look 0 (cd_X6_init E) = t_al 1 0 := funext fun _ => rfl
theorem lo_X6_init_1 (E : kx_E) : kx_look 1 (cd_X6_init E) = t_oin 4 := funext fun _ => rfl
theorem lo_X6_init_4 (E : kx_E) : kx_look 4 (cd_X6_init E) = t_al 5 0 := funext fun _ => rfl
theorem lo_X6_init_5 (E : kx_E) : kx_look 5 (cd_X6_init E) = t_al 6 1 := funext fun _ => rfl
theorem lo_X6_init_6 (E : kx_E) : kx_look 6 (cd_X6_init E) = t_pR 9 8 140 := funext fun _ => rfl
theorem lo_X6_init_9 (E : kx_E) : kx_look 9 (cd_X6_init E) = t_al 10 0 := funext fun _ => rfl
theorem lo_X6_init_10 (E : kx_E) : kx_look 10 (cd_X6_init E) = t_il 11 2 := funext fun _ => rfl
theorem lo_X6_init_11 (E : kx_E) : kx_look 11 (cd_X6_init E) = t_pI 14 8 141 := funext fun _ => rfl
theorem lo_X6_init_14 (E : kx_E) : kx_look 14 (cd_X6_init E) = t_al 15 0 := funext fun _ => rfl
theorem lo_X6_init_15 (E : kx_E) : kx_look 15 (cd_X6_init E) = t_il 16 3 := funext fun _ => rfl
theorem lo_X6_init_16 (E : kx_E) : kx_look 16 (cd_X6_init E) = t_pI 19 8 142 := funext fun _ => rfl
theorem lo_X6_init_19 (E : kx_E) : kx_look 19 (cd_X6_init E) = t_al 20 0 := funext fun _ => rfl
theorem lo_X6_init_20 (E : kx_E) : kx_look 20 (cd_X6_init E) = t_il 22 4 := funext fun _ => rfl
theorem lo_X6_init_22 (E : kx_E) : kx_look 22 (cd_X6_init E) = t_pI 25 8 143 := funext fun _ => rfl
theorem lo_X6_init_25 (E : kx_E) : kx_look 25 (cd_X6_init E) = t_al 26 0 := funext fun _ => rfl
theorem lo_X6_init_26 (E : kx_E) : kx_look 26 (cd_X6_init E) = t_il 28 5 := funext fun _ => rfl
theorem lo_X6_init_28 (E : kx_E) : kx_look 28 (cd_X6_init E) = t_pI 31 8 144 := funext fun _ => rfl
theorem lo_X6_init_31 (E : kx_E) : kx_look 31 (cd_X6_init E) = t_al 32 0 := funext fun _ => rfl
theorem lo_X6_init_32 (E : kx_E) : kx_look 32 (cd_X6_init E) = t_il 34 6 := funext fun _ => rfl
theorem lo_X6_init_34 (E : kx_E) : kx_look 34 (cd_X6_init E) = t_pI 37 8 145 := funext fun _ => rfl
theorem lo_X6_init_37 (E : kx_E) : kx_look 37 (cd_X6_init E) = t_al 38 0 := funext fun _ => rfl
theorem lo_X6_init_38 (E : kx_E) : kx_look 38 (cd_X6_init E) = t_il 40 7 := funext fun _ => rfl
theorem lo_X6_init_40 (E : kx_E) : kx_look 40 (cd_X6_init E) = t_pI 43 8 146 := funext fun _ => rfl
theorem lo_X6_init_43 (E : kx_E) : kx_look 43 (cd_X6_init E) = t_vret := funext fun _ => rfl
theorem lo_X7_init_0 (E : kx_E) : kx_look 0 (cd_X7_init E) = t_al 1 0 := funext fun _ => rfl
theorem lo_X7_init_1 (E : kx_E) : kx_look 1 (cd_X7_init E) = t_oin 4 := funext fun _ => rfl
theorem lo_X7_init_4 (E : kx_E) : kx_look 4 (cd_X7_init E) = t_al 5 0 := funext fun _ => rfl
theorem lo_X7_init_5 (E : kx_E) : kx_look 5 (cd_X7_init E) = t_al 6 1 := funext fun _ => rfl
theorem lo_X7_init_6 (E : kx_E) : kx_look 6 (cd_X7_init E) = t_pR 9 9 160 := funext fun _ => rfl
theorem lo_X7_init_9 (E : kx_E) : kx_look 9 (cd_X7_init E) = t_al 10 0 := funext fun _ => rfl
theorem lo_X7_init_10 (E : kx_E) : kx_look 10 (cd_X7_init E) = t_al 11 2 := funext fun _ => rfl
theorem lo_X7_init_11 (E : kx_E) : kx_look 11 (cd_X7_init E) = t_pR 14 9 161 := funext fun _ => rfl
theorem lo_X7_init_14 (E : kx_E) : kx_look 14 (cd_X7_init E) = t_al 15 0 := funext fun _ => rfl
theorem lo_X7_init_15 (E : kx_E) : kx_look 15 (cd_X7_init E) = t_al 16 3 := funext fun _ => rfl
theorem lo_X7_init_16 (E : kx_E) : kx_look 16 (cd_X7_init E) = t_pR 19 9 162 := funext fun _ => rfl
theorem lo_X7_init_19 (E : kx_E) : kx_look 19 (cd_X7_init E) = t_al 20 0 := funext fun _ => rfl
theorem lo_X7_init_20 (E : kx_E) : kx_look 20 (cd_X7_init E) = t_il 22 4 := funext fun _ => rfl
theorem lo_X7_init_22 (E : kx_E) : kx_look 22 (cd_X7_init E) = t_pI 25 9 163 := funext fun _ => rfl
theorem lo_X7_init_25 (E : kx_E) : kx_look 25 (cd_X7_init E) = t_al 26 0 := funext fun _ => rfl
theorem lo_X7_init_26 (E : kx_E) : kx_look 26 (cd_X7_init E) = t_il 28 5 := funext fun _ => rfl
theorem lo_X7_init_28 (E : kx_E) : kx_look 28 (cd_X7_init E) = t_pI 31 9 164 := funext fun _ => rfl
theorem lo_X7_init_31 (E : kx_E) : kx_look 31 (cd_X7_init E) = t_al 32 0 := funext fun _ => rfl
theorem lo_X7_init_32 (E : kx_E) : kx_look 32 (cd_X7_init E) = t_il 34 6 := funext fun _ => rfl
theorem lo_X7_init_34 (E : kx_E) : kx_look 34 (cd_X7_init E) = t_pI 37 9 165 := funext fun _ => rfl
theorem lo_X7_init_37 (E : kx_E) : kx_look 37 (cd_X7_init E) = t_al 38 0 := funext fun _ => rfl
theorem lo_X7_init_38 (E : kx_E) : kx_look 38 (cd_X7_init E) = t_il 40 7 := funext fun _ => rfl
theorem lo_X7_init_40 (E : kx_E) : kx_look 40 (cd_X7_init E) = t_pI 43 9 166 := funext fun _ => rfl
theorem lo_X7_init_43 (E : kx_E) : kx_look 43 (cd_X7_init E) = t_vret := funext fun _ => rfl
theorem lo_X8_init_0 (E : kx_E) : kx_look 0 (cd_X8_init E) = t_al 1 0 := funext fun _ => rfl
theorem lo_X8_init_1 (E : kx_E) : kx_look 1 (cd_X8_init E) = t_oin 4 := funext fun _ => rfl
theorem lo_X8_init_4 (E : kx_E) : kx_look 4 (cd_X8_init E) = t_al 5 0 := funext fun _ => rfl
theorem lo_X8_init_5 (E : kx_E) : kx_look 5 (cd_X8_init E) = t_al 6 1 := funext fun _ => rfl
theorem lo_X8_init_6 (E : kx_E) : kx_look 6 (cd_X8_init E) = t_pR 9 10 180 := funext fun _ => rfl
theorem lo_X8_init_9 (E : kx_E) : kx_look 9 (cd_X8_init E) = t_al 10 0 := funext fun _ => rfl
theorem lo_X8_init_10 (E : kx_E) : kx_look 10 (cd_X8_init E) = t_il 11 2 := funext fun _ => rfl
theorem lo_X8_init_11 (E : kx_E) : kx_look 11 (cd_X8_init E) = t_pI 14 10 181 := funext fun _ => rfl
theorem lo_X8_init_14 (E : kx_E) : kx_look 14 (cd_X8_init E) = t_al 15 0 := funext fun _ => rfl
theorem lo_X8_init_15 (E : kx_E) : kx_look 15 (cd_X8_init E) = t_il 16 3 := funext fun _ => rfl
theorem lo_X8_init_16 (E : kx_E) : kx_look 16 (cd_X8_init E) = t_pI 19 10 182 := funext fun _ => rfl
theorem lo_X8_init_19 (E : kx_E) : kx_look 19 (cd_X8_init E) = t_al 20 0 := funext fun _ => rfl
theorem lo_X8_init_20 (E : kx_E) : kx_look 20 (cd_X8_init E) = t_il 22 4 := funext fun _ => rfl
theorem lo_X8_init_22 (E : kx_E) : kx_look 22 (cd_X8_init E) = t_pI 25 10 183 := funext fun _ => rfl
theorem lo_X8_init_25 (E : kx_E) : kx_look 25 (cd_X8_init E) = t_vret := funext fun _ => rfl
