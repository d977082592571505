theorem lo_X9_grower_0 (E : kx_E) : kx_look 0 (cd_X9_grower E) = t_al 1 0 := funext fun _ => rfl
theorem lo_X9_grower_1 (E : kx_E) : kx_look 1 (cd_X9_grower E) = t_gR 4 11 200 := funext fun _ => rfl
theorem lo_X9_grower_4 (E : kx_E) : kx_look 4 (cd_X9_grower E) = t_fun (f2_Jx4a65c_size_8abf5 E) 0 0 7 1 := funext fun _ => rfl
theorem lo_X9_grower_7 (E : kx_E) : kx_look 7 (cd_X9_grower E) = t_push 8 (.int 4) := funext fun _ => rfl
theorem lo_X9_grower_8 (E : kx_E) : kx_look 8 (cd_X9_grower E) = t_ic 11 21 (fun x y => x < y) := funext fun _ => rfl
theorem lo_X9_grower_11 (E : kx_E) : kx_look 11 (cd_X9_grower E) = t_no := funext fun _ => rfl
theorem lo_X9_grower_21 (E : kx_E) : kx_look 21 (cd_X9_grower E) = t_al 22 0 := funext fun _ => rfl
theorem lo_X9_grower_22 (E : kx_E) : kx_look 22 (cd_X9_grower E) = t_gR 25 11 200 := funext fun _ => rfl
theorem lo_X9_grower_25 (E : kx_E) : kx_look 25 (cd_X9_grower E) = t_new 28 6 5 := funext fun _ => rfl
theorem lo_X9_grower_28 (E : kx_E) : kx_look 28 (cd_X9_grower E) = t_dup 29 := funext fun _ => rfl
theorem lo_X9_grower_29 (E : kx_E) : kx_look 29 (cd_X9_grower E) = t_call (c2t_X4_init E) 32 1 6 := funext fun _ => rfl
theorem lo_X9_grower_32 (E : kx_E) : kx_look 32 (cd_X9_grower E) = t_fun (f2_Jx4a65c_add_9ea2d E) 1 1500 35 2 := funext fun _ => rfl
theorem lo_X9_grower_35 (E : kx_E) : kx_look 35 (cd_X9_grower E) = t_pop 36 := funext fun _ => rfl
theorem lo_X9_grower_36 (E : kx_E) : kx_look 36 (cd_X9_grower E) = t_al 37 0 := funext fun _ => rfl
theorem lo_X9_grower_37 (E : kx_E) : kx_look 37 (cd_X9_grower E) = t_gR 40 11 200 := funext fun _ => rfl
theorem lo_X9_grower_40 (E : kx_E) : kx_look 40 (cd_X9_grower E) = t_fun (f2_Jx4a65c_size_8abf5 E) 0 0 43 1 := funext fun _ => rfl
theorem lo_X9_grower_43 (E : kx_E) : kx_look 43 (cd_X9_grower E) = t_push 44 (.int 1) := funext fun _ => rfl
theorem lo_X9_grower_44 (E : kx_E) : kx_look 44 (cd_X9_grower E) = t_bin 45 (fun x y => x - y) := funext fun _ => rfl
theorem lo_X9_grower_45 (E : kx_E) : kx_look 45 (cd_X9_grower E) = t_iret := funext fun _ => rfl
theorem lo_X9_buyer_0 (E : kx_E) : kx_look 0 (cd_X9_buyer E) = t_il 1 1 := funext fun _ => rfl
theorem lo_X9_buyer_1 (E : kx_E) : kx_look 1 (cd_X9_buyer E) = t_push 2 (.int 0) := funext fun _ => rfl
theorem lo_X9_buyer_2 (E : kx_E) : kx_look 2 (cd_X9_buyer E) = t_push 4 (.int 9) := funext fun _ => rfl
theorem lo_X9_buyer_4 (E : kx_E) : kx_look 4 (cd_X9_buyer E) = t_fun (f2_X9_isWithin E) 0 0 7 3 := funext fun _ => rfl
theorem lo_X9_buyer_7 (E : kx_E) : kx_look 7 (cd_X9_buyer E) = t_if 10 20 (fun x => x ≠ 0) := funext fun _ => rfl
theorem lo_X9_buyer_10 (E : kx_E) : kx_look 10 (cd_X9_buyer E) = t_no := funext fun _ => rfl
theorem lo_X9_buyer_20 (E : kx_E) : kx_look 20 (cd_X9_buyer E) = t_al 21 0 := funext fun _ => rfl
theorem lo_X9_buyer_21 (E : kx_E) : kx_look 21 (cd_X9_buyer E) = t_gR 24 11 204 := funext fun _ => rfl
theorem lo_X9_buyer_24 (E : kx_E) : kx_look 24 (cd_X9_buyer E) = t_fun (f2_Jx4a65c_size_8abf5 E) 0 0 27 1 := funext fun _ => rfl
theorem lo_X9_buyer_27 (E : kx_E) : kx_look 27 (cd_X9_buyer E) = t_push 28 (.int 4) := funext fun _ => rfl
theorem lo_X9_buyer_28 (E : kx_E) : kx_look 28 (cd_X9_buyer E) = t_ic 31 41 (fun x y => x < y) := funext fun _ => rfl
theorem lo_X9_buyer_31 (E : kx_E) : kx_look 31 (cd_X9_buyer E) = t_no := funext fun _ => rfl
theorem lo_X9_buyer_41 (E : kx_E) : kx_look 41 (cd_X9_buyer E) = t_al 42 0 := funext fun _ => rfl
theorem lo_X9_buyer_42 (E : kx_E) : kx_look 42 (cd_X9_buyer E) = t_gR 45 11 204 := funext fun _ => rfl
theorem lo_X9_buyer_45 (E : kx_E) : kx_look 45 (cd_X9_buyer E) = t_new 48 2 11 := funext fun _ => rfl
theorem lo_X9_buyer_48 (E : kx_E) : kx_look 48 (cd_X9_buyer E) = t_dup 49 := funext fun _ => rfl
theorem lo_X9_buyer_49 (E : kx_E) : kx_look 49 (cd_X9_buyer E) = t_al 50 0 := funext fun _ => rfl
theorem lo_X9_buyer_50 (E : kx_E) : kx_look 50 (cd_X9_buyer E) = t_gR 53 11 204 := funext fun _ => rfl
theorem lo_X9_buyer_53 (E : kx_E) : kx_look 53 (cd_X9_buyer E) = t_fun (f2_Jx4a65c_size_8abf5 E) 0 0 56 1 := funext fun _ => rfl
theorem lo_X9_buyer_56 (E : kx_E) : kx_look 56 (cd_X9_buyer E) = t_il 57 1 := funext fun _ => rfl
theorem lo_X9_buyer_57 (E : kx_E) : kx_look 57 (cd_X9_buyer E) = t_call (c2t_X0_init E) 60 3 2 := funext fun _ => rfl
theorem lo_X9_buyer_60 (E : kx_E) : kx_look 60 (cd_X9_buyer E) = t_fun (f2_Jx4a65c_add_9ea2d E) 1 1500 63 2 := funext fun _ => rfl
theorem lo_X9_buyer_63 (E : kx_E) : kx_look 63 (cd_X9_buyer E) = t_pop 64 := funext fun _ => rfl
theorem lo_X9_buyer_64 (E : kx_E) : kx_look 64 (cd_X9_buyer E) = t_al 65 0 := funext fun _ => rfl
theorem lo_X9_buyer_65 (E : kx_E) : kx_look 65 (cd_X9_buyer E) = t_gR 68 11 204 := funext fun _ => rfl
theorem lo_X9_buyer_68 (E : kx_E) : kx_look 68 (cd_X9_buyer E) = t_fun (f2_Jx4a65c_size_8abf5 E) 0 0 71 1 := funext fun _ => rfl
theorem lo_X9_buyer_71 (E : kx_E) : kx_look 71 (cd_X9_buyer E) = t_push 72 (.int 1) := funext fun _ => rfl
theorem lo_X9_buyer_72 (E : kx_E) : kx_look 72 (cd_X9_buyer E) = t_bin 73 (fun x y => x - y) := funext fun _ => rfl
theorem lo_X9_buyer_73 (E : kx_E) : kx_look 73 (cd_X9_buyer E) = t_iret := funext fun _ => rfl
theorem lo_X9_order_0 (E : kx_E) : kx_look 0 (cd_X9_order E) = t_al 1 0 := funext fun _ => rfl
theorem lo_X9_order_1 (E : kx_E) : kx_look 1 (cd_X9_order E) = t_il 2 1 := funext fun _ => rfl
theorem lo_X9_order_2 (E : kx_E) : kx_look 2 (cd_X9_order E) = t_fun (f2_X9_buyerAt E) 0 0 5 2 := funext fun _ => rfl
theorem lo_X9_order_5 (E : kx_E) : kx_look 5 (cd_X9_order E) = t_as 7 8 := funext fun _ => rfl
theorem lo_X9_order_7 (E : kx_E) : kx_look 7 (cd_X9_order E) = t_il 8 2 := funext fun _ => rfl
theorem lo_X9_order_8 (E : kx_E) : kx_look 8 (cd_X9_order E) = t_fun (f2_X9_isCultivar E) 0 0 11 1 := funext fun _ => rfl
theorem lo_X9_order_11 (E : kx_E) : kx_look 11 (cd_X9_order E) = t_if 14 49 (fun x => x = 0) := funext fun _ => rfl
theorem lo_X9_order_14 (E : kx_E) : kx_look 14 (cd_X9_order E) = t_il 15 3 := funext fun _ => rfl
theorem lo_X9_order_15 (E : kx_E) : kx_look 15 (cd_X9_order E) = t_push 16 (.int 0) := funext fun _ => rfl
theorem lo_X9_order_16 (E : kx_E) : kx_look 16 (cd_X9_order E) = t_push 17 (.int 2) := funext fun _ => rfl
theorem lo_X9_order_17 (E : kx_E) : kx_look 17 (cd_X9_order E) = t_fun (f2_X9_isWithin E) 0 0 20 3 := funext fun _ => rfl
theorem lo_X9_order_20 (E : kx_E) : kx_look 20 (cd_X9_order E) = t_if 23 49 (fun x => x = 0) := funext fun _ => rfl
theorem lo_X9_order_23 (E : kx_E) : kx_look 23 (cd_X9_order E) = t_il 25 4 := funext fun _ => rfl
theorem lo_X9_order_25 (E : kx_E) : kx_look 25 (cd_X9_order E) = t_push 26 (.int 0) := funext fun _ => rfl
theorem lo_X9_order_26 (E : kx_E) : kx_look 26 (cd_X9_order E) = t_push 28 (.int 110) := funext fun _ => rfl
theorem lo_X9_order_28 (E : kx_E) : kx_look 28 (cd_X9_order E) = t_fun (f2_X9_isWithin E) 0 0 31 3 := funext fun _ => rfl
theorem lo_X9_order_31 (E : kx_E) : kx_look 31 (cd_X9_order E) = t_if 34 49 (fun x => x = 0) := funext fun _ => rfl
theorem lo_X9_order_34 (E : kx_E) : kx_look 34 (cd_X9_order E) = t_il 36 5 := funext fun _ => rfl
theorem lo_X9_order_36 (E : kx_E) : kx_look 36 (cd_X9_order E) = t_push 37 (.int 0) := funext fun _ => rfl
theorem lo_X9_order_37 (E : kx_E) : kx_look 37 (cd_X9_order E) = t_push 39 (.int 100) := funext fun _ => rfl
theorem lo_X9_order_39 (E : kx_E) : kx_look 39 (cd_X9_order E) = t_fun (f2_X9_isWithin E) 0 0 42 3 := funext fun _ => rfl
theorem lo_X9_order_42 (E : kx_E) : kx_look 42 (cd_X9_order E) = t_if 45 49 (fun x => x = 0) := funext fun _ => rfl
theorem lo_X9_order_45 (E : kx_E) : kx_look 45 (cd_X9_order E) = t_push 46 (.int 1) := funext fun _ => rfl
theorem lo_X9_order_46 (E : kx_E) : kx_look 46 (cd_X9_order E) = t_go 50 := funext fun _ => rfl
theorem lo_X9_order_49 (E : kx_E) : kx_look 49 (cd_X9_order E) = t_push 50 (.int 0) := funext fun _ => rfl
theorem lo_X9_order_50 (E : kx_E) : kx_look 50 (cd_X9_order E) = t_is 52 9 := funext fun _ => rfl
theorem lo_X9_order_52 (E : kx_E) : kx_look 52 (cd_X9_order E) = t_il 54 9 := funext fun _ => rfl
theorem lo_X9_order_54 (E : kx_E) : kx_look 54 (cd_X9_order E) = t_if 57 80 (fun x => x = 0) := funext fun _ => rfl
theorem lo_X9_order_57 (E : kx_E) : kx_look 57 (cd_X9_order E) = t_il 59 6 := funext fun _ => rfl
theorem lo_X9_order_59 (E : kx_E) : kx_look 59 (cd_X9_order E) = t_push 60 (.int 1) := funext fun _ => rfl
theorem lo_X9_order_60 (E : kx_E) : kx_look 60 (cd_X9_order E) = t_push 62 (.int 99) := funext fun _ => rfl
theorem lo_X9_order_62 (E : kx_E) : kx_look 62 (cd_X9_order E) = t_fun (f2_X9_isWithin E) 0 0 65 3 := funext fun _ => rfl
theorem lo_X9_order_65 (E : kx_E) : kx_look 65 (cd_X9_order E) = t_if 68 80 (fun x => x = 0) := funext fun _ => rfl
theorem lo_X9_order_68 (E : kx_E) : kx_look 68 (cd_X9_order E) = t_il 70 7 := funext fun _ => rfl
theorem lo_X9_order_70 (E : kx_E) : kx_look 70 (cd_X9_order E) = t_push 71 (.int 1) := funext fun _ => rfl
theorem lo_X9_order_71 (E : kx_E) : kx_look 71 (cd_X9_order E) = t_push 74 (.int 500) := funext fun _ => rfl
theorem lo_X9_order_74 (E : kx_E) : kx_look 74 (cd_X9_order E) = t_fun (f2_X9_isWithin E) 0 0 77 3 := funext fun _ => rfl
theorem lo_X9_order_77 (E : kx_E) : kx_look 77 (cd_X9_order E) = t_if 80 90 (fun x => x ≠ 0) := funext fun _ => rfl
theorem lo_X9_order_80 (E : kx_E) : kx_look 80 (cd_X9_order E) = t_no := funext fun _ => rfl
theorem lo_X9_order_90 (E : kx_E) : kx_look 90 (cd_X9_order E) = t_al 91 0 := funext fun _ => rfl
theorem lo_X9_order_91 (E : kx_E) : kx_look 91 (cd_X9_order E) = t_gR 94 11 205 := funext fun _ => rfl
theorem lo_X9_order_94 (E : kx_E) : kx_look 94 (cd_X9_order E) = t_fun (f2_Jx4a65c_size_8abf5 E) 0 0 97 1 := funext fun _ => rfl
theorem lo_X9_order_97 (E : kx_E) : kx_look 97 (cd_X9_order E) = t_push 99 (.int 12) := funext fun _ => rfl
theorem lo_X9_order_99 (E : kx_E) : kx_look 99 (cd_X9_order E) = t_ic 102 112 (fun x y => x < y) := funext fun _ => rfl
theorem lo_X9_order_102 (E : kx_E) : kx_look 102 (cd_X9_order E) = t_no := funext fun _ => rfl
theorem lo_X9_order_112 (E : kx_E) : kx_look 112 (cd_X9_order E) = t_al 113 0 := funext fun _ => rfl
theorem lo_X9_order_113 (E : kx_E) : kx_look 113 (cd_X9_order E) = t_gR 116 11 205 := funext fun _ => rfl
theorem lo_X9_order_116 (E : kx_E) : kx_look 116 (cd_X9_order E) = t_new 119 8 8 := funext fun _ => rfl
theorem lo_X9_order_119 (E : kx_E) : kx_look 119 (cd_X9_order E) = t_dup 120 := funext fun _ => rfl
theorem lo_X9_order_120 (E : kx_E) : kx_look 120 (cd_X9_order E) = t_al 122 8 := funext fun _ => rfl
theorem lo_X9_order_122 (E : kx_E) : kx_look 122 (cd_X9_order E) = t_il 123 2 := funext fun _ => rfl
theorem lo_X9_order_123 (E : kx_E) : kx_look 123 (cd_X9_order E) = t_il 124 3 := funext fun _ => rfl
theorem lo_X9_order_124 (E : kx_E) : kx_look 124 (cd_X9_order E) = t_il 126 4 := funext fun _ => rfl
theorem lo_X9_order_126 (E : kx_E) : kx_look 126 (cd_X9_order E) = t_il 128 5 := funext fun _ => rfl
theorem lo_X9_order_128 (E : kx_E) : kx_look 128 (cd_X9_order E) = t_il 130 6 := funext fun _ => rfl
theorem lo_X9_order_130 (E : kx_E) : kx_look 130 (cd_X9_order E) = t_il 132 7 := funext fun _ => rfl
theorem lo_X9_order_132 (E : kx_E) : kx_look 132 (cd_X9_order E) = t_fun (f2_X6_init E) 0 0 135 8 := funext fun _ => rfl
theorem lo_X9_order_135 (E : kx_E) : kx_look 135 (cd_X9_order E) = t_fun (f2_Jx4a65c_add_9ea2d E) 1 1500 138 2 := funext fun _ => rfl
theorem lo_X9_order_138 (E : kx_E) : kx_look 138 (cd_X9_order E) = t_pop 139 := funext fun _ => rfl
theorem lo_X9_order_139 (E : kx_E) : kx_look 139 (cd_X9_order E) = t_al 140 0 := funext fun _ => rfl
theorem lo_X9_order_140 (E : kx_E) : kx_look 140 (cd_X9_order E) = t_gR 143 11 205 := funext fun _ => rfl
theorem lo_X9_order_143 (E : kx_E) : kx_look 143 (cd_X9_order E) = t_fun (f2_Jx4a65c_size_8abf5 E) 0 0 146 1 := funext fun _ => rfl
theorem lo_X9_order_146 (E : kx_E) : kx_look 146 (cd_X9_order E) = t_push 147 (.int 1) := funext fun _ => rfl
theorem lo_X9_order_147 (E : kx_E) : kx_look 147 (cd_X9_order E) = t_bin 148 (fun x y => x - y) := funext fun _ => rfl
theorem lo_X9_order_148 (E : kx_E) : kx_look 148 (cd_X9_order E) = t_iret := funext fun _ => rfl
theorem lo_X9_plant_0 (E : kx_E) : kx_look 0 (cd_X9_plant E) = t_al 1 0 := funext fun _ => rfl
theorem lo_X9_plant_1 (E : kx_E) : kx_look 1 (cd_X9_plant E) = t_il 2 1 := funext fun _ => rfl
theorem lo_X9_plant_2 (E : kx_E) : kx_look 2 (cd_X9_plant E) = t_fun (f2_X9_growerAt E) 0 0 5 2 := funext fun _ => rfl
theorem lo_X9_plant_5 (E : kx_E) : kx_look 5 (cd_X9_plant E) = t_as 7 4 := funext fun _ => rfl
theorem lo_X9_plant_7 (E : kx_E) : kx_look 7 (cd_X9_plant E) = t_il 8 2 := funext fun _ => rfl
theorem lo_X9_plant_8 (E : kx_E) : kx_look 8 (cd_X9_plant E) = t_fun (f2_X9_isCultivar E) 0 0 11 1 := funext fun _ => rfl
theorem lo_X9_plant_11 (E : kx_E) : kx_look 11 (cd_X9_plant E) = t_if 14 25 (fun x => x = 0) := funext fun _ => rfl
theorem lo_X9_plant_14 (E : kx_E) : kx_look 14 (cd_X9_plant E) = t_il 15 3 := funext fun _ => rfl
theorem lo_X9_plant_15 (E : kx_E) : kx_look 15 (cd_X9_plant E) = t_push 16 (.int 1) := funext fun _ => rfl
theorem lo_X9_plant_16 (E : kx_E) : kx_look 16 (cd_X9_plant E) = t_push 19 (.int 200) := funext fun _ => rfl
theorem lo_X9_plant_19 (E : kx_E) : kx_look 19 (cd_X9_plant E) = t_fun (f2_X9_isWithin E) 0 0 22 3 := funext fun _ => rfl
theorem lo_X9_plant_22 (E : kx_E) : kx_look 22 (cd_X9_plant E) = t_if 25 35 (fun x => x ≠ 0) := funext fun _ => rfl
theorem lo_X9_plant_25 (E : kx_E) : kx_look 25 (cd_X9_plant E) = t_no := funext fun _ => rfl
theorem lo_X9_plant_35 (E : kx_E) : kx_look 35 (cd_X9_plant E) = t_al 36 0 := funext fun _ => rfl
theorem lo_X9_plant_36 (E : kx_E) : kx_look 36 (cd_X9_plant E) = t_gR 39 11 201 := funext fun _ => rfl
theorem lo_X9_plant_39 (E : kx_E) : kx_look 39 (cd_X9_plant E) = t_fun (f2_Jx4a65c_size_8abf5 E) 0 0 42 1 := funext fun _ => rfl
theorem lo_X9_plant_42 (E : kx_E) : kx_look 42 (cd_X9_plant E) = t_push 44 (.int 8) := funext fun _ => rfl
theorem lo_X9_plant_44 (E : kx_E) : kx_look 44 (cd_X9_plant E) = t_ic 47 57 (fun x y => x < y) := funext fun _ => rfl
theorem lo_X9_plant_47 (E : kx_E) : kx_look 47 (cd_X9_plant E) = t_no := funext fun _ => rfl
theorem lo_X9_plant_57 (E : kx_E) : kx_look 57 (cd_X9_plant E) = t_al 58 0 := funext fun _ => rfl
theorem lo_X9_plant_58 (E : kx_E) : kx_look 58 (cd_X9_plant E) = t_gR 61 11 201 := funext fun _ => rfl
theorem lo_X9_plant_61 (E : kx_E) : kx_look 61 (cd_X9_plant E) = t_new 64 5 7 := funext fun _ => rfl
theorem lo_X9_plant_64 (E : kx_E) : kx_look 64 (cd_X9_plant E) = t_dup 65 := funext fun _ => rfl
theorem lo_X9_plant_65 (E : kx_E) : kx_look 65 (cd_X9_plant E) = t_al 67 4 := funext fun _ => rfl
theorem lo_X9_plant_67 (E : kx_E) : kx_look 67 (cd_X9_plant E) = t_il 68 1 := funext fun _ => rfl
theorem lo_X9_plant_68 (E : kx_E) : kx_look 68 (cd_X9_plant E) = t_il 69 2 := funext fun _ => rfl
theorem lo_X9_plant_69 (E : kx_E) : kx_look 69 (cd_X9_plant E) = t_il 70 3 := funext fun _ => rfl
theorem lo_X9_plant_70 (E : kx_E) : kx_look 70 (cd_X9_plant E) = t_fun (f2_X3_init E) 0 0 73 5 := funext fun _ => rfl
theorem lo_X9_plant_73 (E : kx_E) : kx_look 73 (cd_X9_plant E) = t_fun (f2_Jx4a65c_add_9ea2d E) 1 1500 76 2 := funext fun _ => rfl
theorem lo_X9_plant_76 (E : kx_E) : kx_look 76 (cd_X9_plant E) = t_pop 77 := funext fun _ => rfl
theorem lo_X9_plant_77 (E : kx_E) : kx_look 77 (cd_X9_plant E) = t_al 78 0 := funext fun _ => rfl
theorem lo_X9_plant_78 (E : kx_E) : kx_look 78 (cd_X9_plant E) = t_gR 81 11 201 := funext fun _ => rfl
theorem lo_X9_plant_81 (E : kx_E) : kx_look 81 (cd_X9_plant E) = t_fun (f2_Jx4a65c_size_8abf5 E) 0 0 84 1 := funext fun _ => rfl
theorem lo_X9_plant_84 (E : kx_E) : kx_look 84 (cd_X9_plant E) = t_push 85 (.int 1) := funext fun _ => rfl
theorem lo_X9_plant_85 (E : kx_E) : kx_look 85 (cd_X9_plant E) = t_bin 86 (fun x y => x - y) := funext fun _ => rfl
theorem lo_X9_plant_86 (E : kx_E) : kx_look 86 (cd_X9_plant E) = t_iret := funext fun _ => rfl
theorem lo_X9_cut_0 (E : kx_E) : kx_look 0 (cd_X9_cut E) = t_al 1 0 := funext fun _ => rfl
theorem lo_X9_cut_1 (E : kx_E) : kx_look 1 (cd_X9_cut E) = t_il 2 1 := funext fun _ => rfl
theorem lo_X9_cut_2 (E : kx_E) : kx_look 2 (cd_X9_cut E) = t_fun (f2_X9_cropAt E) 0 0 5 2 := funext fun _ => rfl
theorem lo_X9_cut_5 (E : kx_E) : kx_look 5 (cd_X9_cut E) = t_as 6 3 := funext fun _ => rfl
theorem lo_X9_cut_6 (E : kx_E) : kx_look 6 (cd_X9_cut E) = t_il 7 2 := funext fun _ => rfl
theorem lo_X9_cut_7 (E : kx_E) : kx_look 7 (cd_X9_cut E) = t_push 8 (.int 1) := funext fun _ => rfl
theorem lo_X9_cut_8 (E : kx_E) : kx_look 8 (cd_X9_cut E) = t_ic 11 21 (fun x y => y ≤ x) := funext fun _ => rfl
theorem lo_X9_cut_11 (E : kx_E) : kx_look 11 (cd_X9_cut E) = t_no := funext fun _ => rfl
theorem lo_X9_cut_21 (E : kx_E) : kx_look 21 (cd_X9_cut E) = t_al 22 3 := funext fun _ => rfl
theorem lo_X9_cut_22 (E : kx_E) : kx_look 22 (cd_X9_cut E) = t_gI 25 5 85 := funext fun _ => rfl
theorem lo_X9_cut_25 (E : kx_E) : kx_look 25 (cd_X9_cut E) = t_if 28 59 (fun x => x = 0) := funext fun _ => rfl
theorem lo_X9_cut_28 (E : kx_E) : kx_look 28 (cd_X9_cut E) = t_il 29 2 := funext fun _ => rfl
theorem lo_X9_cut_29 (E : kx_E) : kx_look 29 (cd_X9_cut E) = t_al 30 3 := funext fun _ => rfl
theorem lo_X9_cut_30 (E : kx_E) : kx_look 30 (cd_X9_cut E) = t_gI 33 5 83 := funext fun _ => rfl
theorem lo_X9_cut_33 (E : kx_E) : kx_look 33 (cd_X9_cut E) = t_ic 36 59 (fun x y => y < x) := funext fun _ => rfl
theorem lo_X9_cut_36 (E : kx_E) : kx_look 36 (cd_X9_cut E) = t_al 37 0 := funext fun _ => rfl
theorem lo_X9_cut_37 (E : kx_E) : kx_look 37 (cd_X9_cut E) = t_gR 40 11 202 := funext fun _ => rfl
theorem lo_X9_cut_40 (E : kx_E) : kx_look 40 (cd_X9_cut E) = t_fun (f2_Jx4a65c_size_8abf5 E) 0 0 43 1 := funext fun _ => rfl
theorem lo_X9_cut_43 (E : kx_E) : kx_look 43 (cd_X9_cut E) = t_push 45 (.int 16) := funext fun _ => rfl
theorem lo_X9_cut_45 (E : kx_E) : kx_look 45 (cd_X9_cut E) = t_ic 48 59 (fun x y => y ≤ x) := funext fun _ => rfl
theorem lo_X9_cut_48 (E : kx_E) : kx_look 48 (cd_X9_cut E) = t_il 49 2 := funext fun _ => rfl
theorem lo_X9_cut_49 (E : kx_E) : kx_look 49 (cd_X9_cut E) = t_fun (f2_X9_bucketsFor E) 0 0 52 1 := funext fun _ => rfl
theorem lo_X9_cut_52 (E : kx_E) : kx_look 52 (cd_X9_cut E) = t_al 53 0 := funext fun _ => rfl
theorem lo_X9_cut_53 (E : kx_E) : kx_look 53 (cd_X9_cut E) = t_gI 56 11 212 := funext fun _ => rfl
theorem lo_X9_cut_56 (E : kx_E) : kx_look 56 (cd_X9_cut E) = t_ic 59 69 (fun x y => x ≤ y) := funext fun _ => rfl
theorem lo_X9_cut_59 (E : kx_E) : kx_look 59 (cd_X9_cut E) = t_no := funext fun _ => rfl
theorem lo_X9_cut_69 (E : kx_E) : kx_look 69 (cd_X9_cut E) = t_new 72 7 12 := funext fun _ => rfl
theorem lo_X9_cut_72 (E : kx_E) : kx_look 72 (cd_X9_cut E) = t_dup 73 := funext fun _ => rfl
theorem lo_X9_cut_73 (E : kx_E) : kx_look 73 (cd_X9_cut E) = t_al 74 0 := funext fun _ => rfl
theorem lo_X9_cut_74 (E : kx_E) : kx_look 74 (cd_X9_cut E) = t_gR 77 11 202 := funext fun _ => rfl
theorem lo_X9_cut_77 (E : kx_E) : kx_look 77 (cd_X9_cut E) = t_fun (f2_Jx4a65c_size_8abf5 E) 0 0 80 1 := funext fun _ => rfl
theorem lo_X9_cut_80 (E : kx_E) : kx_look 80 (cd_X9_cut E) = t_al 81 3 := funext fun _ => rfl
theorem lo_X9_cut_81 (E : kx_E) : kx_look 81 (cd_X9_cut E) = t_il 82 2 := funext fun _ => rfl
theorem lo_X9_cut_82 (E : kx_E) : kx_look 82 (cd_X9_cut E) = t_il 83 2 := funext fun _ => rfl
theorem lo_X9_cut_83 (E : kx_E) : kx_look 83 (cd_X9_cut E) = t_fun (f2_X9_bucketsFor E) 0 0 86 1 := funext fun _ => rfl
theorem lo_X9_cut_86 (E : kx_E) : kx_look 86 (cd_X9_cut E) = t_fun (f2_X5_init E) 0 0 89 5 := funext fun _ => rfl
theorem lo_X9_cut_89 (E : kx_E) : kx_look 89 (cd_X9_cut E) = t_as 91 4 := funext fun _ => rfl
theorem lo_X9_cut_91 (E : kx_E) : kx_look 91 (cd_X9_cut E) = t_al 92 3 := funext fun _ => rfl
theorem lo_X9_cut_92 (E : kx_E) : kx_look 92 (cd_X9_cut E) = t_dup 93 := funext fun _ => rfl
theorem lo_X9_cut_93 (E : kx_E) : kx_look 93 (cd_X9_cut E) = t_gI 96 5 83 := funext fun _ => rfl
theorem lo_X9_cut_96 (E : kx_E) : kx_look 96 (cd_X9_cut E) = t_il 97 2 := funext fun _ => rfl
theorem lo_X9_cut_97 (E : kx_E) : kx_look 97 (cd_X9_cut E) = t_bin 98 (fun x y => x - y) := funext fun _ => rfl
theorem lo_X9_cut_98 (E : kx_E) : kx_look 98 (cd_X9_cut E) = t_pI 101 5 83 := funext fun _ => rfl
theorem lo_X9_cut_101 (E : kx_E) : kx_look 101 (cd_X9_cut E) = t_al 102 0 := funext fun _ => rfl
theorem lo_X9_cut_102 (E : kx_E) : kx_look 102 (cd_X9_cut E) = t_dup 103 := funext fun _ => rfl
theorem lo_X9_cut_103 (E : kx_E) : kx_look 103 (cd_X9_cut E) = t_gI 106 11 212 := funext fun _ => rfl
theorem lo_X9_cut_106 (E : kx_E) : kx_look 106 (cd_X9_cut E) = t_al 108 4 := funext fun _ => rfl
theorem lo_X9_cut_108 (E : kx_E) : kx_look 108 (cd_X9_cut E) = t_gI 111 7 127 := funext fun _ => rfl
theorem lo_X9_cut_111 (E : kx_E) : kx_look 111 (cd_X9_cut E) = t_bin 112 (fun x y => x - y) := funext fun _ => rfl
theorem lo_X9_cut_112 (E : kx_E) : kx_look 112 (cd_X9_cut E) = t_pI 115 11 212 := funext fun _ => rfl
theorem lo_X9_cut_115 (E : kx_E) : kx_look 115 (cd_X9_cut E) = t_al 116 0 := funext fun _ => rfl
theorem lo_X9_cut_116 (E : kx_E) : kx_look 116 (cd_X9_cut E) = t_gR 119 11 202 := funext fun _ => rfl
theorem lo_X9_cut_119 (E : kx_E) : kx_look 119 (cd_X9_cut E) = t_al 121 4 := funext fun _ => rfl
theorem lo_X9_cut_121 (E : kx_E) : kx_look 121 (cd_X9_cut E) = t_fun (f2_Jx4a65c_add_9ea2d E) 1 1500 124 2 := funext fun _ => rfl
theorem lo_X9_cut_124 (E : kx_E) : kx_look 124 (cd_X9_cut E) = t_pop 125 := funext fun _ => rfl
theorem lo_X9_cut_125 (E : kx_E) : kx_look 125 (cd_X9_cut E) = t_al 127 4 := funext fun _ => rfl
theorem lo_X9_cut_127 (E : kx_E) : kx_look 127 (cd_X9_cut E) = t_gI 130 7 120 := funext fun _ => rfl
theorem lo_X9_cut_130 (E : kx_E) : kx_look 130 (cd_X9_cut E) = t_iret := funext fun _ => rfl
