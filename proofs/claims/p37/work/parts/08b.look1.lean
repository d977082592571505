theorem lo_X1_init_0 (E : kx_E) : kx_look 0 (cd_X1_init E) = t_al 1 0 := funext fun _ => rfl
theorem lo_X1_init_1 (E : kx_E) : kx_look 1 (cd_X1_init E) = t_oin 4 := funext fun _ => rfl
theorem lo_X1_init_4 (E : kx_E) : kx_look 4 (cd_X1_init E) = t_al 5 0 := funext fun _ => rfl
theorem lo_X1_init_5 (E : kx_E) : kx_look 5 (cd_X1_init E) = t_push 6 (.int 3) := funext fun _ => rfl
theorem lo_X1_init_6 (E : kx_E) : kx_look 6 (cd_X1_init E) = t_nwa 8 := funext fun _ => rfl
theorem lo_X1_init_8 (E : kx_E) : kx_look 8 (cd_X1_init E) = t_dup 9 := funext fun _ => rfl
theorem lo_X1_init_9 (E : kx_E) : kx_look 9 (cd_X1_init E) = t_push 10 (.int 0) := funext fun _ => rfl
theorem lo_X1_init_10 (E : kx_E) : kx_look 10 (cd_X1_init E) = t_il 11 1 := funext fun _ => rfl
theorem lo_X1_init_11 (E : kx_E) : kx_look 11 (cd_X1_init E) = t_ias 12 := funext fun _ => rfl
theorem lo_X1_init_12 (E : kx_E) : kx_look 12 (cd_X1_init E) = t_dup 13 := funext fun _ => rfl
theorem lo_X1_init_13 (E : kx_E) : kx_look 13 (cd_X1_init E) = t_push 14 (.int 1) := funext fun _ => rfl
theorem lo_X1_init_14 (E : kx_E) : kx_look 14 (cd_X1_init E) = t_il 15 1 := funext fun _ => rfl
theorem lo_X1_init_15 (E : kx_E) : kx_look 15 (cd_X1_init E) = t_ias 16 := funext fun _ => rfl
theorem lo_X1_init_16 (E : kx_E) : kx_look 16 (cd_X1_init E) = t_dup 17 := funext fun _ => rfl
theorem lo_X1_init_17 (E : kx_E) : kx_look 17 (cd_X1_init E) = t_push 18 (.int 2) := funext fun _ => rfl
theorem lo_X1_init_18 (E : kx_E) : kx_look 18 (cd_X1_init E) = t_il 19 1 := funext fun _ => rfl
theorem lo_X1_init_19 (E : kx_E) : kx_look 19 (cd_X1_init E) = t_ias 20 := funext fun _ => rfl
theorem lo_X1_init_20 (E : kx_E) : kx_look 20 (cd_X1_init E) = t_pR 23 3 40 := funext fun _ => rfl
theorem lo_X1_init_23 (E : kx_E) : kx_look 23 (cd_X1_init E) = t_vret := funext fun _ => rfl
theorem lo_X1_of_0 (E : kx_E) : kx_look 0 (cd_X1_of E) = t_il 1 1 := funext fun _ => rfl
theorem lo_X1_of_1 (E : kx_E) : kx_look 1 (cd_X1_of E) = t_if 4 22 (fun x => x < 0) := funext fun _ => rfl
theorem lo_X1_of_4 (E : kx_E) : kx_look 4 (cd_X1_of E) = t_il 5 1 := funext fun _ => rfl
theorem lo_X1_of_5 (E : kx_E) : kx_look 5 (cd_X1_of E) = t_al 6 0 := funext fun _ => rfl
theorem lo_X1_of_6 (E : kx_E) : kx_look 6 (cd_X1_of E) = t_gR 9 3 40 := funext fun _ => rfl
theorem lo_X1_of_9 (E : kx_E) : kx_look 9 (cd_X1_of E) = t_aln 10 := funext fun _ => rfl
theorem lo_X1_of_10 (E : kx_E) : kx_look 10 (cd_X1_of E) = t_ic 13 22 (fun x y => y ≤ x) := funext fun _ => rfl
theorem lo_X1_of_13 (E : kx_E) : kx_look 13 (cd_X1_of E) = t_al 14 0 := funext fun _ => rfl
theorem lo_X1_of_14 (E : kx_E) : kx_look 14 (cd_X1_of E) = t_gR 17 3 40 := funext fun _ => rfl
theorem lo_X1_of_17 (E : kx_E) : kx_look 17 (cd_X1_of E) = t_il 18 1 := funext fun _ => rfl
theorem lo_X1_of_18 (E : kx_E) : kx_look 18 (cd_X1_of E) = t_ial 19 := funext fun _ => rfl
theorem lo_X1_of_19 (E : kx_E) : kx_look 19 (cd_X1_of E) = t_go 23 := funext fun _ => rfl
theorem lo_X1_of_22 (E : kx_E) : kx_look 22 (cd_X1_of E) = t_push 23 (.int 0) := funext fun _ => rfl
theorem lo_X1_of_23 (E : kx_E) : kx_look 23 (cd_X1_of E) = t_iret := funext fun _ => rfl
theorem lo_X1_put_0 (E : kx_E) : kx_look 0 (cd_X1_put E) = t_il 1 1 := funext fun _ => rfl
theorem lo_X1_put_1 (E : kx_E) : kx_look 1 (cd_X1_put E) = t_if 4 20 (fun x => x < 0) := funext fun _ => rfl
theorem lo_X1_put_4 (E : kx_E) : kx_look 4 (cd_X1_put E) = t_il 5 1 := funext fun _ => rfl
theorem lo_X1_put_5 (E : kx_E) : kx_look 5 (cd_X1_put E) = t_al 6 0 := funext fun _ => rfl
theorem lo_X1_put_6 (E : kx_E) : kx_look 6 (cd_X1_put E) = t_gR 9 3 40 := funext fun _ => rfl
theorem lo_X1_put_9 (E : kx_E) : kx_look 9 (cd_X1_put E) = t_aln 10 := funext fun _ => rfl
theorem lo_X1_put_10 (E : kx_E) : kx_look 10 (cd_X1_put E) = t_ic 13 20 (fun x y => y ≤ x) := funext fun _ => rfl
theorem lo_X1_put_13 (E : kx_E) : kx_look 13 (cd_X1_put E) = t_al 14 0 := funext fun _ => rfl
theorem lo_X1_put_14 (E : kx_E) : kx_look 14 (cd_X1_put E) = t_gR 17 3 40 := funext fun _ => rfl
theorem lo_X1_put_17 (E : kx_E) : kx_look 17 (cd_X1_put E) = t_il 18 1 := funext fun _ => rfl
theorem lo_X1_put_18 (E : kx_E) : kx_look 18 (cd_X1_put E) = t_il 19 2 := funext fun _ => rfl
theorem lo_X1_put_19 (E : kx_E) : kx_look 19 (cd_X1_put E) = t_ias 20 := funext fun _ => rfl
theorem lo_X1_put_20 (E : kx_E) : kx_look 20 (cd_X1_put E) = t_vret := funext fun _ => rfl
theorem lo_X1_putAll_0 (E : kx_E) : kx_look 0 (cd_X1_putAll E) = t_push 1 (.int 0) := funext fun _ => rfl
theorem lo_X1_putAll_1 (E : kx_E) : kx_look 1 (cd_X1_putAll E) = t_is 2 2 := funext fun _ => rfl
theorem lo_X1_putAll_2 (E : kx_E) : kx_look 2 (cd_X1_putAll E) = t_il 3 2 := funext fun _ => rfl
theorem lo_X1_putAll_3 (E : kx_E) : kx_look 3 (cd_X1_putAll E) = t_al 4 0 := funext fun _ => rfl
theorem lo_X1_putAll_4 (E : kx_E) : kx_look 4 (cd_X1_putAll E) = t_gR 7 3 40 := funext fun _ => rfl
theorem lo_X1_putAll_7 (E : kx_E) : kx_look 7 (cd_X1_putAll E) = t_aln 8 := funext fun _ => rfl
theorem lo_X1_putAll_8 (E : kx_E) : kx_look 8 (cd_X1_putAll E) = t_ic 11 24 (fun x y => y ≤ x) := funext fun _ => rfl
theorem lo_X1_putAll_11 (E : kx_E) : kx_look 11 (cd_X1_putAll E) = t_al 12 0 := funext fun _ => rfl
theorem lo_X1_putAll_12 (E : kx_E) : kx_look 12 (cd_X1_putAll E) = t_gR 15 3 40 := funext fun _ => rfl
theorem lo_X1_putAll_15 (E : kx_E) : kx_look 15 (cd_X1_putAll E) = t_il 16 2 := funext fun _ => rfl
theorem lo_X1_putAll_16 (E : kx_E) : kx_look 16 (cd_X1_putAll E) = t_il 17 1 := funext fun _ => rfl
theorem lo_X1_putAll_17 (E : kx_E) : kx_look 17 (cd_X1_putAll E) = t_ias 18 := funext fun _ => rfl
theorem lo_X1_putAll_18 (E : kx_E) : kx_look 18 (cd_X1_putAll E) = t_inc 21 2 1 := funext fun _ => rfl
theorem lo_X1_putAll_21 (E : kx_E) : kx_look 21 (cd_X1_putAll E) = t_go 2 := funext fun _ => rfl
theorem lo_X1_putAll_24 (E : kx_E) : kx_look 24 (cd_X1_putAll E) = t_vret := funext fun _ => rfl
theorem lo_X1_total_0 (E : kx_E) : kx_look 0 (cd_X1_total E) = t_push 1 (.int 0) := funext fun _ => rfl
theorem lo_X1_total_1 (E : kx_E) : kx_look 1 (cd_X1_total E) = t_is 2 1 := funext fun _ => rfl
theorem lo_X1_total_2 (E : kx_E) : kx_look 2 (cd_X1_total E) = t_push 3 (.int 0) := funext fun _ => rfl
theorem lo_X1_total_3 (E : kx_E) : kx_look 3 (cd_X1_total E) = t_is 4 2 := funext fun _ => rfl
theorem lo_X1_total_4 (E : kx_E) : kx_look 4 (cd_X1_total E) = t_il 5 2 := funext fun _ => rfl
theorem lo_X1_total_5 (E : kx_E) : kx_look 5 (cd_X1_total E) = t_al 6 0 := funext fun _ => rfl
theorem lo_X1_total_6 (E : kx_E) : kx_look 6 (cd_X1_total E) = t_gR 9 3 40 := funext fun _ => rfl
theorem lo_X1_total_9 (E : kx_E) : kx_look 9 (cd_X1_total E) = t_aln 10 := funext fun _ => rfl
theorem lo_X1_total_10 (E : kx_E) : kx_look 10 (cd_X1_total E) = t_ic 13 28 (fun x y => y ≤ x) := funext fun _ => rfl
theorem lo_X1_total_13 (E : kx_E) : kx_look 13 (cd_X1_total E) = t_il 14 1 := funext fun _ => rfl
theorem lo_X1_total_14 (E : kx_E) : kx_look 14 (cd_X1_total E) = t_al 15 0 := funext fun _ => rfl
theorem lo_X1_total_15 (E : kx_E) : kx_look 15 (cd_X1_total E) = t_gR 18 3 40 := funext fun _ => rfl
theorem lo_X1_total_18 (E : kx_E) : kx_look 18 (cd_X1_total E) = t_il 19 2 := funext fun _ => rfl
theorem lo_X1_total_19 (E : kx_E) : kx_look 19 (cd_X1_total E) = t_ial 20 := funext fun _ => rfl
theorem lo_X1_total_20 (E : kx_E) : kx_look 20 (cd_X1_total E) = t_bin 21 (fun x y => x + y) := funext fun _ => rfl
theorem lo_X1_total_21 (E : kx_E) : kx_look 21 (cd_X1_total E) = t_is 22 1 := funext fun _ => rfl
theorem lo_X1_total_22 (E : kx_E) : kx_look 22 (cd_X1_total E) = t_inc 25 2 1 := funext fun _ => rfl
theorem lo_X1_total_25 (E : kx_E) : kx_look 25 (cd_X1_total E) = t_go 4 := funext fun _ => rfl
theorem lo_X1_total_28 (E : kx_E) : kx_look 28 (cd_X1_total E) = t_il 29 1 := funext fun _ => rfl
theorem lo_X1_total_29 (E : kx_E) : kx_look 29 (cd_X1_total E) = t_iret := funext fun _ => rfl
theorem lo_Jxa1e45_init_da8c8_0 (E : kx_E) : kx_look 0 (cd_Jxa1e45_init_da8c8 E) = t_al 1 0 := funext fun _ => rfl
theorem lo_Jxa1e45_init_da8c8_1 (E : kx_E) : kx_look 1 (cd_Jxa1e45_init_da8c8 E) = t_oin 4 := funext fun _ => rfl
theorem lo_Jxa1e45_init_da8c8_4 (E : kx_E) : kx_look 4 (cd_Jxa1e45_init_da8c8 E) = t_vret := funext fun _ => rfl
theorem lo_Jxc12de_init_da8c8_0 (E : kx_E) : kx_look 0 (cd_Jxc12de_init_da8c8 E) = t_al 1 0 := funext fun _ => rfl
theorem lo_Jxc12de_init_da8c8_1 (E : kx_E) : kx_look 1 (cd_Jxc12de_init_da8c8 E) = t_call (c1t_Jxa1e45_init_da8c8 E) 4 1 1 := funext fun _ => rfl
theorem lo_Jxc12de_init_da8c8_4 (E : kx_E) : kx_look 4 (cd_Jxc12de_init_da8c8 E) = t_al 5 0 := funext fun _ => rfl
theorem lo_Jxc12de_init_da8c8_5 (E : kx_E) : kx_look 5 (cd_Jxc12de_init_da8c8 E) = t_push 6 (.int 0) := funext fun _ => rfl
theorem lo_Jxc12de_init_da8c8_6 (E : kx_E) : kx_look 6 (cd_Jxc12de_init_da8c8 E) = t_pI 9 1 0 := funext fun _ => rfl
theorem lo_Jxc12de_init_da8c8_9 (E : kx_E) : kx_look 9 (cd_Jxc12de_init_da8c8 E) = t_vret := funext fun _ => rfl
theorem lo_Jx4a65c_init_da8c8_0 (E : kx_E) : kx_look 0 (cd_Jx4a65c_init_da8c8 E) = t_al 1 0 := funext fun _ => rfl
theorem lo_Jx4a65c_init_da8c8_1 (E : kx_E) : kx_look 1 (cd_Jx4a65c_init_da8c8 E) = t_call (c1t_Jxc12de_init_da8c8 E) 4 1 1 := funext fun _ => rfl
theorem lo_Jx4a65c_init_da8c8_4 (E : kx_E) : kx_look 4 (cd_Jx4a65c_init_da8c8 E) = t_al 5 0 := funext fun _ => rfl
theorem lo_Jx4a65c_init_da8c8_5 (E : kx_E) : kx_look 5 (cd_Jx4a65c_init_da8c8 E) = t_push 8 (.ref (kx_e0 E)) := funext fun _ => rfl
theorem lo_Jx4a65c_init_da8c8_8 (E : kx_E) : kx_look 8 (cd_Jx4a65c_init_da8c8 E) = t_pR 11 1 1 := funext fun _ => rfl
theorem lo_Jx4a65c_init_da8c8_11 (E : kx_E) : kx_look 11 (cd_Jx4a65c_init_da8c8 E) = t_vret := funext fun _ => rfl
theorem lo_J8_newLength_cabcc_0 (E : kx_E) : kx_look 0 (cd_J8_newLength_cabcc E) = t_il 1 0 := funext fun _ => rfl
theorem lo_J8_newLength_cabcc_1 (E : kx_E) : kx_look 1 (cd_J8_newLength_cabcc E) = t_il 2 1 := funext fun _ => rfl
theorem lo_J8_newLength_cabcc_2 (E : kx_E) : kx_look 2 (cd_J8_newLength_cabcc E) = t_il 3 2 := funext fun _ => rfl
theorem lo_J8_newLength_cabcc_3 (E : kx_E) : kx_look 3 (cd_J8_newLength_cabcc E) = t_mm 6 (fun x y => if x < y then y else x) := funext fun _ => rfl
theorem lo_J8_newLength_cabcc_6 (E : kx_E) : kx_look 6 (cd_J8_newLength_cabcc E) = t_bin 7 (fun x y => x + y) := funext fun _ => rfl
theorem lo_J8_newLength_cabcc_7 (E : kx_E) : kx_look 7 (cd_J8_newLength_cabcc E) = t_is 8 3 := funext fun _ => rfl
theorem lo_J8_newLength_cabcc_8 (E : kx_E) : kx_look 8 (cd_J8_newLength_cabcc E) = t_push 9 (.int 0) := funext fun _ => rfl
theorem lo_J8_newLength_cabcc_9 (E : kx_E) : kx_look 9 (cd_J8_newLength_cabcc E) = t_il 10 3 := funext fun _ => rfl
theorem lo_J8_newLength_cabcc_10 (E : kx_E) : kx_look 10 (cd_J8_newLength_cabcc E) = t_ic 13 21 (fun x y => y ≤ x) := funext fun _ => rfl
theorem lo_J8_newLength_cabcc_13 (E : kx_E) : kx_look 13 (cd_J8_newLength_cabcc E) = t_il 14 3 := funext fun _ => rfl
theorem lo_J8_newLength_cabcc_14 (E : kx_E) : kx_look 14 (cd_J8_newLength_cabcc E) = t_push 16 (.int 2147483639) := funext fun _ => rfl
theorem lo_J8_newLength_cabcc_16 (E : kx_E) : kx_look 16 (cd_J8_newLength_cabcc E) = t_ic 19 21 (fun x y => y < x) := funext fun _ => rfl
theorem lo_J8_newLength_cabcc_19 (E : kx_E) : kx_look 19 (cd_J8_newLength_cabcc E) = t_il 20 3 := funext fun _ => rfl
theorem lo_J8_newLength_cabcc_20 (E : kx_E) : kx_look 20 (cd_J8_newLength_cabcc E) = t_iret := funext fun _ => rfl
theorem lo_J8_newLength_cabcc_21 (E : kx_E) : kx_look 21 (cd_J8_newLength_cabcc E) = t_il 22 0 := funext fun _ => rfl
theorem lo_J8_newLength_cabcc_22 (E : kx_E) : kx_look 22 (cd_J8_newLength_cabcc E) = t_il 23 1 := funext fun _ => rfl
theorem lo_J8_newLength_cabcc_23 (E : kx_E) : kx_look 23 (cd_J8_newLength_cabcc E) = t_no := funext fun _ => rfl
theorem lo_J8_newLength_cabcc_26 (E : kx_E) : kx_look 26 (cd_J8_newLength_cabcc E) = t_iret := funext fun _ => rfl
theorem lo_J7_copyOf_6403c_0 (E : kx_E) : kx_look 0 (cd_J7_copyOf_6403c E) = t_al 1 2 := funext fun _ => rfl
theorem lo_J7_copyOf_6403c_1 (E : kx_E) : kx_look 1 (cd_J7_copyOf_6403c E) = t_push 3 (.ref (kx_mi E)) := funext fun _ => rfl
theorem lo_J7_copyOf_6403c_3 (E : kx_E) : kx_look 3 (cd_J7_copyOf_6403c E) = t_acmp 6 13 := funext fun _ => rfl
theorem lo_J7_copyOf_6403c_6 (E : kx_E) : kx_look 6 (cd_J7_copyOf_6403c E) = t_il 7 1 := funext fun _ => rfl
theorem lo_J7_copyOf_6403c_7 (E : kx_E) : kx_look 7 (cd_J7_copyOf_6403c E) = t_nwq E 10 := funext fun _ => rfl
theorem lo_J7_copyOf_6403c_10 (E : kx_E) : kx_look 10 (cd_J7_copyOf_6403c E) = t_go 24 := funext fun _ => rfl
theorem lo_J7_copyOf_6403c_13 (E : kx_E) : kx_look 13 (cd_J7_copyOf_6403c E) = t_al 14 2 := funext fun _ => rfl
theorem lo_J7_copyOf_6403c_14 (E : kx_E) : kx_look 14 (cd_J7_copyOf_6403c E) = t_no := funext fun _ => rfl
theorem lo_J7_copyOf_6403c_17 (E : kx_E) : kx_look 17 (cd_J7_copyOf_6403c E) = t_il 18 1 := funext fun _ => rfl
theorem lo_J7_copyOf_6403c_18 (E : kx_E) : kx_look 18 (cd_J7_copyOf_6403c E) = t_no := funext fun _ => rfl
theorem lo_J7_copyOf_6403c_24 (E : kx_E) : kx_look 24 (cd_J7_copyOf_6403c E) = t_as 25 3 := funext fun _ => rfl
theorem lo_J7_copyOf_6403c_25 (E : kx_E) : kx_look 25 (cd_J7_copyOf_6403c E) = t_al 26 0 := funext fun _ => rfl
theorem lo_J7_copyOf_6403c_26 (E : kx_E) : kx_look 26 (cd_J7_copyOf_6403c E) = t_push 27 (.int 0) := funext fun _ => rfl
theorem lo_J7_copyOf_6403c_27 (E : kx_E) : kx_look 27 (cd_J7_copyOf_6403c E) = t_al 28 3 := funext fun _ => rfl
theorem lo_J7_copyOf_6403c_28 (E : kx_E) : kx_look 28 (cd_J7_copyOf_6403c E) = t_push 29 (.int 0) := funext fun _ => rfl
theorem lo_J7_copyOf_6403c_29 (E : kx_E) : kx_look 29 (cd_J7_copyOf_6403c E) = t_al 30 0 := funext fun _ => rfl
theorem lo_J7_copyOf_6403c_30 (E : kx_E) : kx_look 30 (cd_J7_copyOf_6403c E) = t_qln E 31 := funext fun _ => rfl
theorem lo_J7_copyOf_6403c_31 (E : kx_E) : kx_look 31 (cd_J7_copyOf_6403c E) = t_il 32 1 := funext fun _ => rfl
theorem lo_J7_copyOf_6403c_32 (E : kx_E) : kx_look 32 (cd_J7_copyOf_6403c E) = t_mm 35 (fun x y => if y < x then y else x) := funext fun _ => rfl
theorem lo_J7_copyOf_6403c_35 (E : kx_E) : kx_look 35 (cd_J7_copyOf_6403c E) = t_acp E 38 := funext fun _ => rfl
theorem lo_J7_copyOf_6403c_38 (E : kx_E) : kx_look 38 (cd_J7_copyOf_6403c E) = t_al 39 3 := funext fun _ => rfl
theorem lo_J7_copyOf_6403c_39 (E : kx_E) : kx_look 39 (cd_J7_copyOf_6403c E) = t_aret := funext fun _ => rfl
theorem lo_J7_copyOf_1904c_0 (E : kx_E) : kx_look 0 (cd_J7_copyOf_1904c E) = t_al 1 0 := funext fun _ => rfl
theorem lo_J7_copyOf_1904c_1 (E : kx_E) : kx_look 1 (cd_J7_copyOf_1904c E) = t_il 2 1 := funext fun _ => rfl
theorem lo_J7_copyOf_1904c_2 (E : kx_E) : kx_look 2 (cd_J7_copyOf_1904c E) = t_al 3 0 := funext fun _ => rfl
theorem lo_J7_copyOf_1904c_3 (E : kx_E) : kx_look 3 (cd_J7_copyOf_1904c E) = t_gcl E 6 := funext fun _ => rfl
theorem lo_J7_copyOf_1904c_6 (E : kx_E) : kx_look 6 (cd_J7_copyOf_1904c E) = t_call (c1t_J7_copyOf_6403c E) 9 3 0 := funext fun _ => rfl
theorem lo_J7_copyOf_1904c_9 (E : kx_E) : kx_look 9 (cd_J7_copyOf_1904c E) = t_aret := funext fun _ => rfl
theorem lo_Jx4a65c_grow_92f84_0 (E : kx_E) : kx_look 0 (cd_Jx4a65c_grow_92f84 E) = t_al 1 0 := funext fun _ => rfl
theorem lo_Jx4a65c_grow_92f84_1 (E : kx_E) : kx_look 1 (cd_Jx4a65c_grow_92f84 E) = t_gR 4 1 1 := funext fun _ => rfl
theorem lo_Jx4a65c_grow_92f84_4 (E : kx_E) : kx_look 4 (cd_Jx4a65c_grow_92f84 E) = t_qln E 5 := funext fun _ => rfl
theorem lo_Jx4a65c_grow_92f84_5 (E : kx_E) : kx_look 5 (cd_Jx4a65c_grow_92f84 E) = t_is 6 2 := funext fun _ => rfl
theorem lo_Jx4a65c_grow_92f84_6 (E : kx_E) : kx_look 6 (cd_Jx4a65c_grow_92f84 E) = t_il 7 2 := funext fun _ => rfl
theorem lo_Jx4a65c_grow_92f84_7 (E : kx_E) : kx_look 7 (cd_Jx4a65c_grow_92f84 E) = t_if 10 20 (fun x => 0 < x) := funext fun _ => rfl
theorem lo_Jx4a65c_grow_92f84_10 (E : kx_E) : kx_look 10 (cd_Jx4a65c_grow_92f84 E) = t_al 11 0 := funext fun _ => rfl
theorem lo_Jx4a65c_grow_92f84_11 (E : kx_E) : kx_look 11 (cd_Jx4a65c_grow_92f84 E) = t_gR 14 1 1 := funext fun _ => rfl
theorem lo_Jx4a65c_grow_92f84_14 (E : kx_E) : kx_look 14 (cd_Jx4a65c_grow_92f84 E) = t_push 17 (.ref (kx_e0 E)) := funext fun _ => rfl
theorem lo_Jx4a65c_grow_92f84_17 (E : kx_E) : kx_look 17 (cd_Jx4a65c_grow_92f84 E) = t_acmp 45 20 := funext fun _ => rfl
theorem lo_Jx4a65c_grow_92f84_20 (E : kx_E) : kx_look 20 (cd_Jx4a65c_grow_92f84 E) = t_il 21 2 := funext fun _ => rfl
theorem lo_Jx4a65c_grow_92f84_21 (E : kx_E) : kx_look 21 (cd_Jx4a65c_grow_92f84 E) = t_il 22 1 := funext fun _ => rfl
theorem lo_Jx4a65c_grow_92f84_22 (E : kx_E) : kx_look 22 (cd_Jx4a65c_grow_92f84 E) = t_il 23 2 := funext fun _ => rfl
theorem lo_Jx4a65c_grow_92f84_23 (E : kx_E) : kx_look 23 (cd_Jx4a65c_grow_92f84 E) = t_bin 24 (fun x y => x - y) := funext fun _ => rfl
theorem lo_Jx4a65c_grow_92f84_24 (E : kx_E) : kx_look 24 (cd_Jx4a65c_grow_92f84 E) = t_il 25 2 := funext fun _ => rfl
theorem lo_Jx4a65c_grow_92f84_25 (E : kx_E) : kx_look 25 (cd_Jx4a65c_grow_92f84 E) = t_push 26 (.int 1) := funext fun _ => rfl
theorem lo_Jx4a65c_grow_92f84_26 (E : kx_E) : kx_look 26 (cd_Jx4a65c_grow_92f84 E) = t_bin 27 (fun x y => x >>> (y &&& 31)) := funext fun _ => rfl
theorem lo_Jx4a65c_grow_92f84_27 (E : kx_E) : kx_look 27 (cd_Jx4a65c_grow_92f84 E) = t_call (c1t_J8_newLength_cabcc E) 30 3 0 := funext fun _ => rfl
theorem lo_Jx4a65c_grow_92f84_30 (E : kx_E) : kx_look 30 (cd_Jx4a65c_grow_92f84 E) = t_is 31 3 := funext fun _ => rfl
theorem lo_Jx4a65c_grow_92f84_31 (E : kx_E) : kx_look 31 (cd_Jx4a65c_grow_92f84 E) = t_al 32 0 := funext fun _ => rfl
theorem lo_Jx4a65c_grow_92f84_32 (E : kx_E) : kx_look 32 (cd_Jx4a65c_grow_92f84 E) = t_al 33 0 := funext fun _ => rfl
theorem lo_Jx4a65c_grow_92f84_33 (E : kx_E) : kx_look 33 (cd_Jx4a65c_grow_92f84 E) = t_gR 36 1 1 := funext fun _ => rfl
theorem lo_Jx4a65c_grow_92f84_36 (E : kx_E) : kx_look 36 (cd_Jx4a65c_grow_92f84 E) = t_il 37 3 := funext fun _ => rfl
theorem lo_Jx4a65c_grow_92f84_37 (E : kx_E) : kx_look 37 (cd_Jx4a65c_grow_92f84 E) = t_call (c1t_J7_copyOf_1904c E) 40 2 0 := funext fun _ => rfl
theorem lo_Jx4a65c_grow_92f84_40 (E : kx_E) : kx_look 40 (cd_Jx4a65c_grow_92f84 E) = t_dupx 41 := funext fun _ => rfl
theorem lo_Jx4a65c_grow_92f84_41 (E : kx_E) : kx_look 41 (cd_Jx4a65c_grow_92f84 E) = t_pR 44 1 1 := funext fun _ => rfl
theorem lo_Jx4a65c_grow_92f84_44 (E : kx_E) : kx_look 44 (cd_Jx4a65c_grow_92f84 E) = t_aret := funext fun _ => rfl
theorem lo_Jx4a65c_grow_92f84_45 (E : kx_E) : kx_look 45 (cd_Jx4a65c_grow_92f84 E) = t_al 46 0 := funext fun _ => rfl
theorem lo_Jx4a65c_grow_92f84_46 (E : kx_E) : kx_look 46 (cd_Jx4a65c_grow_92f84 E) = t_push 48 (.int 10) := funext fun _ => rfl
theorem lo_Jx4a65c_grow_92f84_48 (E : kx_E) : kx_look 48 (cd_Jx4a65c_grow_92f84 E) = t_il 49 1 := funext fun _ => rfl
theorem lo_Jx4a65c_grow_92f84_49 (E : kx_E) : kx_look 49 (cd_Jx4a65c_grow_92f84 E) = t_mm 52 (fun x y => if x < y then y else x) := funext fun _ => rfl
theorem lo_Jx4a65c_grow_92f84_52 (E : kx_E) : kx_look 52 (cd_Jx4a65c_grow_92f84 E) = t_nwq E 55 := funext fun _ => rfl
theorem lo_Jx4a65c_grow_92f84_55 (E : kx_E) : kx_look 55 (cd_Jx4a65c_grow_92f84 E) = t_dupx 56 := funext fun _ => rfl
theorem lo_Jx4a65c_grow_92f84_56 (E : kx_E) : kx_look 56 (cd_Jx4a65c_grow_92f84 E) = t_pR 59 1 1 := funext fun _ => rfl
theorem lo_Jx4a65c_grow_92f84_59 (E : kx_E) : kx_look 59 (cd_Jx4a65c_grow_92f84 E) = t_aret := funext fun _ => rfl
theorem lo_Jx4a65c_grow_d5877_0 (E : kx_E) : kx_look 0 (cd_Jx4a65c_grow_d5877 E) = t_al 1 0 := funext fun _ => rfl
theorem lo_Jx4a65c_grow_d5877_1 (E : kx_E) : kx_look 1 (cd_Jx4a65c_grow_d5877 E) = t_al 2 0 := funext fun _ => rfl
theorem lo_Jx4a65c_grow_d5877_2 (E : kx_E) : kx_look 2 (cd_Jx4a65c_grow_d5877 E) = t_gI 5 1 2 := funext fun _ => rfl
theorem lo_Jx4a65c_grow_d5877_5 (E : kx_E) : kx_look 5 (cd_Jx4a65c_grow_d5877 E) = t_push 6 (.int 1) := funext fun _ => rfl
theorem lo_Jx4a65c_grow_d5877_6 (E : kx_E) : kx_look 6 (cd_Jx4a65c_grow_d5877 E) = t_bin 7 (fun x y => x + y) := funext fun _ => rfl
theorem lo_Jx4a65c_grow_d5877_7 (E : kx_E) : kx_look 7 (cd_Jx4a65c_grow_d5877 E) = t_call (c1t_Jx4a65c_grow_92f84 E) 10 2 1 := funext fun _ => rfl
theorem lo_Jx4a65c_grow_d5877_10 (E : kx_E) : kx_look 10 (cd_Jx4a65c_grow_d5877 E) = t_aret := funext fun _ => rfl
theorem lo_Jx4a65c_size_8abf5_0 (E : kx_E) : kx_look 0 (cd_Jx4a65c_size_8abf5 E) = t_al 1 0 := funext fun _ => rfl
theorem lo_Jx4a65c_size_8abf5_1 (E : kx_E) : kx_look 1 (cd_Jx4a65c_size_8abf5 E) = t_gI 4 1 2 := funext fun _ => rfl
theorem lo_Jx4a65c_size_8abf5_4 (E : kx_E) : kx_look 4 (cd_Jx4a65c_size_8abf5 E) = t_iret := funext fun _ => rfl
theorem lo_Jx4a65c_isEmpty_aae02_0 (E : kx_E) : kx_look 0 (cd_Jx4a65c_isEmpty_aae02 E) = t_al 1 0 := funext fun _ => rfl
theorem lo_Jx4a65c_isEmpty_aae02_1 (E : kx_E) : kx_look 1 (cd_Jx4a65c_isEmpty_aae02 E) = t_gI 4 1 2 := funext fun _ => rfl
theorem lo_Jx4a65c_isEmpty_aae02_4 (E : kx_E) : kx_look 4 (cd_Jx4a65c_isEmpty_aae02 E) = t_if 7 11 (fun x => x ≠ 0) := funext fun _ => rfl
theorem lo_Jx4a65c_isEmpty_aae02_7 (E : kx_E) : kx_look 7 (cd_Jx4a65c_isEmpty_aae02 E) = t_push 8 (.int 1) := funext fun _ => rfl
theorem lo_Jx4a65c_isEmpty_aae02_8 (E : kx_E) : kx_look 8 (cd_Jx4a65c_isEmpty_aae02 E) = t_go 12 := funext fun _ => rfl
theorem lo_Jx4a65c_isEmpty_aae02_11 (E : kx_E) : kx_look 11 (cd_Jx4a65c_isEmpty_aae02 E) = t_push 12 (.int 0) := funext fun _ => rfl
theorem lo_Jx4a65c_isEmpty_aae02_12 (E : kx_E) : kx_look 12 (cd_Jx4a65c_isEmpty_aae02 E) = t_zret := funext fun _ => rfl
theorem lo_J3_checkIndex_8e157_0 (E : kx_E) : kx_look 0 (cd_J3_checkIndex_8e157 E) = t_il 1 0 := funext fun _ => rfl
theorem lo_J3_checkIndex_8e157_1 (E : kx_E) : kx_look 1 (cd_J3_checkIndex_8e157 E) = t_if 4 9 (fun x => x < 0) := funext fun _ => rfl
theorem lo_J3_checkIndex_8e157_4 (E : kx_E) : kx_look 4 (cd_J3_checkIndex_8e157 E) = t_il 5 0 := funext fun _ => rfl
theorem lo_J3_checkIndex_8e157_5 (E : kx_E) : kx_look 5 (cd_J3_checkIndex_8e157 E) = t_il 6 1 := funext fun _ => rfl
theorem lo_J3_checkIndex_8e157_6 (E : kx_E) : kx_look 6 (cd_J3_checkIndex_8e157 E) = t_ic 9 16 (fun x y => x < y) := funext fun _ => rfl
theorem lo_J3_checkIndex_8e157_9 (E : kx_E) : kx_look 9 (cd_J3_checkIndex_8e157 E) = t_al 10 2 := funext fun _ => rfl
theorem lo_J3_checkIndex_8e157_10 (E : kx_E) : kx_look 10 (cd_J3_checkIndex_8e157 E) = t_il 11 0 := funext fun _ => rfl
theorem lo_J3_checkIndex_8e157_11 (E : kx_E) : kx_look 11 (cd_J3_checkIndex_8e157 E) = t_il 12 1 := funext fun _ => rfl
theorem lo_J3_checkIndex_8e157_12 (E : kx_E) : kx_look 12 (cd_J3_checkIndex_8e157 E) = t_no := funext fun _ => rfl
theorem lo_J3_checkIndex_8e157_16 (E : kx_E) : kx_look 16 (cd_J3_checkIndex_8e157 E) = t_il 17 0 := funext fun _ => rfl
theorem lo_J3_checkIndex_8e157_17 (E : kx_E) : kx_look 17 (cd_J3_checkIndex_8e157 E) = t_iret := funext fun _ => rfl
theorem lo_J15_checkIndex_7cf53_0 (E : kx_E) : kx_look 0 (cd_J15_checkIndex_7cf53 E) = t_il 1 0 := funext fun _ => rfl
theorem lo_J15_checkIndex_7cf53_1 (E : kx_E) : kx_look 1 (cd_J15_checkIndex_7cf53 E) = t_il 2 1 := funext fun _ => rfl
theorem lo_J15_checkIndex_7cf53_2 (E : kx_E) : kx_look 2 (cd_J15_checkIndex_7cf53 E) = t_push 3 .null := funext fun _ => rfl
theorem lo_J15_checkIndex_7cf53_3 (E : kx_E) : kx_look 3 (cd_J15_checkIndex_7cf53 E) = t_call (c1t_J3_checkIndex_8e157 E) 6 3 0 := funext fun _ => rfl
theorem lo_J15_checkIndex_7cf53_6 (E : kx_E) : kx_look 6 (cd_J15_checkIndex_7cf53 E) = t_iret := funext fun _ => rfl
theorem lo_Jx4a65c_elementData_915e3_0 (E : kx_E) : kx_look 0 (cd_Jx4a65c_elementData_915e3 E) = t_al 1 0 := funext fun _ => rfl
theorem lo_Jx4a65c_elementData_915e3_1 (E : kx_E) : kx_look 1 (cd_Jx4a65c_elementData_915e3 E) = t_gR 4 1 1 := funext fun _ => rfl
theorem lo_Jx4a65c_elementData_915e3_4 (E : kx_E) : kx_look 4 (cd_Jx4a65c_elementData_915e3 E) = t_il 5 1 := funext fun _ => rfl
theorem lo_Jx4a65c_elementData_915e3_5 (E : kx_E) : kx_look 5 (cd_Jx4a65c_elementData_915e3 E) = t_qal 6 := funext fun _ => rfl
theorem lo_Jx4a65c_elementData_915e3_6 (E : kx_E) : kx_look 6 (cd_Jx4a65c_elementData_915e3 E) = t_aret := funext fun _ => rfl
theorem lo_Jx4a65c_get_915e3_0 (E : kx_E) : kx_look 0 (cd_Jx4a65c_get_915e3 E) = t_il 1 1 := funext fun _ => rfl
theorem lo_Jx4a65c_get_915e3_1 (E : kx_E) : kx_look 1 (cd_Jx4a65c_get_915e3 E) = t_al 2 0 := funext fun _ => rfl
theorem lo_Jx4a65c_get_915e3_2 (E : kx_E) : kx_look 2 (cd_Jx4a65c_get_915e3 E) = t_gI 5 1 2 := funext fun _ => rfl
theorem lo_Jx4a65c_get_915e3_5 (E : kx_E) : kx_look 5 (cd_Jx4a65c_get_915e3 E) = t_call (c1t_J15_checkIndex_7cf53 E) 8 2 0 := funext fun _ => rfl
theorem lo_Jx4a65c_get_915e3_8 (E : kx_E) : kx_look 8 (cd_Jx4a65c_get_915e3 E) = t_pop 9 := funext fun _ => rfl
theorem lo_Jx4a65c_get_915e3_9 (E : kx_E) : kx_look 9 (cd_Jx4a65c_get_915e3 E) = t_al 10 0 := funext fun _ => rfl
theorem lo_Jx4a65c_get_915e3_10 (E : kx_E) : kx_look 10 (cd_Jx4a65c_get_915e3 E) = t_il 11 1 := funext fun _ => rfl
theorem lo_Jx4a65c_get_915e3_11 (E : kx_E) : kx_look 11 (cd_Jx4a65c_get_915e3 E) = t_call (c1t_Jx4a65c_elementData_915e3 E) 14 2 1 := funext fun _ => rfl
theorem lo_Jx4a65c_get_915e3_14 (E : kx_E) : kx_look 14 (cd_Jx4a65c_get_915e3 E) = t_aret := funext fun _ => rfl
theorem lo_Jx4a65c_add_72be8_0 (E : kx_E) : kx_look 0 (cd_Jx4a65c_add_72be8 E) = t_il 1 3 := funext fun _ => rfl
theorem lo_Jx4a65c_add_72be8_1 (E : kx_E) : kx_look 1 (cd_Jx4a65c_add_72be8 E) = t_al 2 2 := funext fun _ => rfl
theorem lo_Jx4a65c_add_72be8_2 (E : kx_E) : kx_look 2 (cd_Jx4a65c_add_72be8 E) = t_qln E 3 := funext fun _ => rfl
theorem lo_Jx4a65c_add_72be8_3 (E : kx_E) : kx_look 3 (cd_Jx4a65c_add_72be8 E) = t_ic 6 11 (fun x y => x ≠ y) := funext fun _ => rfl
theorem lo_Jx4a65c_add_72be8_6 (E : kx_E) : kx_look 6 (cd_Jx4a65c_add_72be8 E) = t_al 7 0 := funext fun _ => rfl
theorem lo_Jx4a65c_add_72be8_7 (E : kx_E) : kx_look 7 (cd_Jx4a65c_add_72be8 E) = t_call (c1t_Jx4a65c_grow_d5877 E) 10 1 1 := funext fun _ => rfl
theorem lo_Jx4a65c_add_72be8_10 (E : kx_E) : kx_look 10 (cd_Jx4a65c_add_72be8 E) = t_as 11 2 := funext fun _ => rfl
theorem lo_Jx4a65c_add_72be8_11 (E : kx_E) : kx_look 11 (cd_Jx4a65c_add_72be8 E) = t_al 12 2 := funext fun _ => rfl
theorem lo_Jx4a65c_add_72be8_12 (E : kx_E) : kx_look 12 (cd_Jx4a65c_add_72be8 E) = t_il 13 3 := funext fun _ => rfl
theorem lo_Jx4a65c_add_72be8_13 (E : kx_E) : kx_look 13 (cd_Jx4a65c_add_72be8 E) = t_al 14 1 := funext fun _ => rfl
theorem lo_Jx4a65c_add_72be8_14 (E : kx_E) : kx_look 14 (cd_Jx4a65c_add_72be8 E) = t_qas 15 := funext fun _ => rfl
theorem lo_Jx4a65c_add_72be8_15 (E : kx_E) : kx_look 15 (cd_Jx4a65c_add_72be8 E) = t_al 16 0 := funext fun _ => rfl
theorem lo_Jx4a65c_add_72be8_16 (E : kx_E) : kx_look 16 (cd_Jx4a65c_add_72be8 E) = t_il 17 3 := funext fun _ => rfl
theorem lo_Jx4a65c_add_72be8_17 (E : kx_E) : kx_look 17 (cd_Jx4a65c_add_72be8 E) = t_push 18 (.int 1) := funext fun _ => rfl
theorem lo_Jx4a65c_add_72be8_18 (E : kx_E) : kx_look 18 (cd_Jx4a65c_add_72be8 E) = t_bin 19 (fun x y => x + y) := funext fun _ => rfl
theorem lo_Jx4a65c_add_72be8_19 (E : kx_E) : kx_look 19 (cd_Jx4a65c_add_72be8 E) = t_pI 22 1 2 := funext fun _ => rfl
theorem lo_Jx4a65c_add_72be8_22 (E : kx_E) : kx_look 22 (cd_Jx4a65c_add_72be8 E) = t_vret := funext fun _ => rfl
theorem lo_Jx4a65c_add_9ea2d_0 (E : kx_E) : kx_look 0 (cd_Jx4a65c_add_9ea2d E) = t_al 1 0 := funext fun _ => rfl
theorem lo_Jx4a65c_add_9ea2d_1 (E : kx_E) : kx_look 1 (cd_Jx4a65c_add_9ea2d E) = t_dup 2 := funext fun _ => rfl
theorem lo_Jx4a65c_add_9ea2d_2 (E : kx_E) : kx_look 2 (cd_Jx4a65c_add_9ea2d E) = t_gI 5 1 0 := funext fun _ => rfl
theorem lo_Jx4a65c_add_9ea2d_5 (E : kx_E) : kx_look 5 (cd_Jx4a65c_add_9ea2d E) = t_push 6 (.int 1) := funext fun _ => rfl
theorem lo_Jx4a65c_add_9ea2d_6 (E : kx_E) : kx_look 6 (cd_Jx4a65c_add_9ea2d E) = t_bin 7 (fun x y => x + y) := funext fun _ => rfl
theorem lo_Jx4a65c_add_9ea2d_7 (E : kx_E) : kx_look 7 (cd_Jx4a65c_add_9ea2d E) = t_pI 10 1 0 := funext fun _ => rfl
theorem lo_Jx4a65c_add_9ea2d_10 (E : kx_E) : kx_look 10 (cd_Jx4a65c_add_9ea2d E) = t_al 11 0 := funext fun _ => rfl
theorem lo_Jx4a65c_add_9ea2d_11 (E : kx_E) : kx_look 11 (cd_Jx4a65c_add_9ea2d E) = t_al 12 1 := funext fun _ => rfl
theorem lo_Jx4a65c_add_9ea2d_12 (E : kx_E) : kx_look 12 (cd_Jx4a65c_add_9ea2d E) = t_al 13 0 := funext fun _ => rfl
theorem lo_Jx4a65c_add_9ea2d_13 (E : kx_E) : kx_look 13 (cd_Jx4a65c_add_9ea2d E) = t_gR 16 1 1 := funext fun _ => rfl
theorem lo_Jx4a65c_add_9ea2d_16 (E : kx_E) : kx_look 16 (cd_Jx4a65c_add_9ea2d E) = t_al 17 0 := funext fun _ => rfl
theorem lo_Jx4a65c_add_9ea2d_17 (E : kx_E) : kx_look 17 (cd_Jx4a65c_add_9ea2d E) = t_gI 20 1 2 := funext fun _ => rfl
theorem lo_Jx4a65c_add_9ea2d_20 (E : kx_E) : kx_look 20 (cd_Jx4a65c_add_9ea2d E) = t_call (c1t_Jx4a65c_add_72be8 E) 23 4 1 := funext fun _ => rfl
theorem lo_Jx4a65c_add_9ea2d_23 (E : kx_E) : kx_look 23 (cd_Jx4a65c_add_9ea2d E) = t_push 24 (.int 1) := funext fun _ => rfl
theorem lo_Jx4a65c_add_9ea2d_24 (E : kx_E) : kx_look 24 (cd_Jx4a65c_add_9ea2d E) = t_zret := funext fun _ => rfl
theorem lo_Jx4a65c_fastRemove_b59b0_0 (E : kx_E) : kx_look 0 (cd_Jx4a65c_fastRemove_b59b0 E) = t_al 1 0 := funext fun _ => rfl
theorem lo_Jx4a65c_fastRemove_b59b0_1 (E : kx_E) : kx_look 1 (cd_Jx4a65c_fastRemove_b59b0 E) = t_dup 2 := funext fun _ => rfl
theorem lo_Jx4a65c_fastRemove_b59b0_2 (E : kx_E) : kx_look 2 (cd_Jx4a65c_fastRemove_b59b0 E) = t_gI 5 1 0 := funext fun _ => rfl
theorem lo_Jx4a65c_fastRemove_b59b0_5 (E : kx_E) : kx_look 5 (cd_Jx4a65c_fastRemove_b59b0 E) = t_push 6 (.int 1) := funext fun _ => rfl
theorem lo_Jx4a65c_fastRemove_b59b0_6 (E : kx_E) : kx_look 6 (cd_Jx4a65c_fastRemove_b59b0 E) = t_bin 7 (fun x y => x + y) := funext fun _ => rfl
theorem lo_Jx4a65c_fastRemove_b59b0_7 (E : kx_E) : kx_look 7 (cd_Jx4a65c_fastRemove_b59b0 E) = t_pI 10 1 0 := funext fun _ => rfl
theorem lo_Jx4a65c_fastRemove_b59b0_10 (E : kx_E) : kx_look 10 (cd_Jx4a65c_fastRemove_b59b0 E) = t_al 11 0 := funext fun _ => rfl
theorem lo_Jx4a65c_fastRemove_b59b0_11 (E : kx_E) : kx_look 11 (cd_Jx4a65c_fastRemove_b59b0 E) = t_gI 14 1 2 := funext fun _ => rfl
theorem lo_Jx4a65c_fastRemove_b59b0_14 (E : kx_E) : kx_look 14 (cd_Jx4a65c_fastRemove_b59b0 E) = t_push 15 (.int 1) := funext fun _ => rfl
theorem lo_Jx4a65c_fastRemove_b59b0_15 (E : kx_E) : kx_look 15 (cd_Jx4a65c_fastRemove_b59b0 E) = t_bin 16 (fun x y => x - y) := funext fun _ => rfl
theorem lo_Jx4a65c_fastRemove_b59b0_16 (E : kx_E) : kx_look 16 (cd_Jx4a65c_fastRemove_b59b0 E) = t_dup 17 := funext fun _ => rfl
theorem lo_Jx4a65c_fastRemove_b59b0_17 (E : kx_E) : kx_look 17 (cd_Jx4a65c_fastRemove_b59b0 E) = t_is 18 3 := funext fun _ => rfl
theorem lo_Jx4a65c_fastRemove_b59b0_18 (E : kx_E) : kx_look 18 (cd_Jx4a65c_fastRemove_b59b0 E) = t_il 19 2 := funext fun _ => rfl
theorem lo_Jx4a65c_fastRemove_b59b0_19 (E : kx_E) : kx_look 19 (cd_Jx4a65c_fastRemove_b59b0 E) = t_ic 22 34 (fun x y => x ≤ y) := funext fun _ => rfl
theorem lo_Jx4a65c_fastRemove_b59b0_22 (E : kx_E) : kx_look 22 (cd_Jx4a65c_fastRemove_b59b0 E) = t_al 23 1 := funext fun _ => rfl
theorem lo_Jx4a65c_fastRemove_b59b0_23 (E : kx_E) : kx_look 23 (cd_Jx4a65c_fastRemove_b59b0 E) = t_il 24 2 := funext fun _ => rfl
theorem lo_Jx4a65c_fastRemove_b59b0_24 (E : kx_E) : kx_look 24 (cd_Jx4a65c_fastRemove_b59b0 E) = t_push 25 (.int 1) := funext fun _ => rfl
theorem lo_Jx4a65c_fastRemove_b59b0_25 (E : kx_E) : kx_look 25 (cd_Jx4a65c_fastRemove_b59b0 E) = t_bin 26 (fun x y => x + y) := funext fun _ => rfl
theorem lo_Jx4a65c_fastRemove_b59b0_26 (E : kx_E) : kx_look 26 (cd_Jx4a65c_fastRemove_b59b0 E) = t_al 27 1 := funext fun _ => rfl
theorem lo_Jx4a65c_fastRemove_b59b0_27 (E : kx_E) : kx_look 27 (cd_Jx4a65c_fastRemove_b59b0 E) = t_il 28 2 := funext fun _ => rfl
theorem lo_Jx4a65c_fastRemove_b59b0_28 (E : kx_E) : kx_look 28 (cd_Jx4a65c_fastRemove_b59b0 E) = t_il 29 3 := funext fun _ => rfl
theorem lo_Jx4a65c_fastRemove_b59b0_29 (E : kx_E) : kx_look 29 (cd_Jx4a65c_fastRemove_b59b0 E) = t_il 30 2 := funext fun _ => rfl
theorem lo_Jx4a65c_fastRemove_b59b0_30 (E : kx_E) : kx_look 30 (cd_Jx4a65c_fastRemove_b59b0 E) = t_bin 31 (fun x y => x - y) := funext fun _ => rfl
theorem lo_Jx4a65c_fastRemove_b59b0_31 (E : kx_E) : kx_look 31 (cd_Jx4a65c_fastRemove_b59b0 E) = t_acp E 34 := funext fun _ => rfl
theorem lo_Jx4a65c_fastRemove_b59b0_34 (E : kx_E) : kx_look 34 (cd_Jx4a65c_fastRemove_b59b0 E) = t_al 35 1 := funext fun _ => rfl
theorem lo_Jx4a65c_fastRemove_b59b0_35 (E : kx_E) : kx_look 35 (cd_Jx4a65c_fastRemove_b59b0 E) = t_al 36 0 := funext fun _ => rfl
theorem lo_Jx4a65c_fastRemove_b59b0_36 (E : kx_E) : kx_look 36 (cd_Jx4a65c_fastRemove_b59b0 E) = t_il 37 3 := funext fun _ => rfl
theorem lo_Jx4a65c_fastRemove_b59b0_37 (E : kx_E) : kx_look 37 (cd_Jx4a65c_fastRemove_b59b0 E) = t_dupx 38 := funext fun _ => rfl
theorem lo_Jx4a65c_fastRemove_b59b0_38 (E : kx_E) : kx_look 38 (cd_Jx4a65c_fastRemove_b59b0 E) = t_pI 41 1 2 := funext fun _ => rfl
theorem lo_Jx4a65c_fastRemove_b59b0_41 (E : kx_E) : kx_look 41 (cd_Jx4a65c_fastRemove_b59b0 E) = t_push 42 .null := funext fun _ => rfl
theorem lo_Jx4a65c_fastRemove_b59b0_42 (E : kx_E) : kx_look 42 (cd_Jx4a65c_fastRemove_b59b0 E) = t_qas 43 := funext fun _ => rfl
theorem lo_Jx4a65c_fastRemove_b59b0_43 (E : kx_E) : kx_look 43 (cd_Jx4a65c_fastRemove_b59b0 E) = t_vret := funext fun _ => rfl
theorem lo_Jx4a65c_remove_915e3_0 (E : kx_E) : kx_look 0 (cd_Jx4a65c_remove_915e3 E) = t_il 1 1 := funext fun _ => rfl
theorem lo_Jx4a65c_remove_915e3_1 (E : kx_E) : kx_look 1 (cd_Jx4a65c_remove_915e3 E) = t_al 2 0 := funext fun _ => rfl
theorem lo_Jx4a65c_remove_915e3_2 (E : kx_E) : kx_look 2 (cd_Jx4a65c_remove_915e3 E) = t_gI 5 1 2 := funext fun _ => rfl
theorem lo_Jx4a65c_remove_915e3_5 (E : kx_E) : kx_look 5 (cd_Jx4a65c_remove_915e3 E) = t_call (c1t_J15_checkIndex_7cf53 E) 8 2 0 := funext fun _ => rfl
theorem lo_Jx4a65c_remove_915e3_8 (E : kx_E) : kx_look 8 (cd_Jx4a65c_remove_915e3 E) = t_pop 9 := funext fun _ => rfl
theorem lo_Jx4a65c_remove_915e3_9 (E : kx_E) : kx_look 9 (cd_Jx4a65c_remove_915e3 E) = t_al 10 0 := funext fun _ => rfl
theorem lo_Jx4a65c_remove_915e3_10 (E : kx_E) : kx_look 10 (cd_Jx4a65c_remove_915e3 E) = t_gR 13 1 1 := funext fun _ => rfl
theorem lo_Jx4a65c_remove_915e3_13 (E : kx_E) : kx_look 13 (cd_Jx4a65c_remove_915e3 E) = t_as 14 2 := funext fun _ => rfl
theorem lo_Jx4a65c_remove_915e3_14 (E : kx_E) : kx_look 14 (cd_Jx4a65c_remove_915e3 E) = t_al 15 2 := funext fun _ => rfl
theorem lo_Jx4a65c_remove_915e3_15 (E : kx_E) : kx_look 15 (cd_Jx4a65c_remove_915e3 E) = t_il 16 1 := funext fun _ => rfl
theorem lo_Jx4a65c_remove_915e3_16 (E : kx_E) : kx_look 16 (cd_Jx4a65c_remove_915e3 E) = t_qal 17 := funext fun _ => rfl
theorem lo_Jx4a65c_remove_915e3_17 (E : kx_E) : kx_look 17 (cd_Jx4a65c_remove_915e3 E) = t_as 18 3 := funext fun _ => rfl
theorem lo_Jx4a65c_remove_915e3_18 (E : kx_E) : kx_look 18 (cd_Jx4a65c_remove_915e3 E) = t_al 19 0 := funext fun _ => rfl
theorem lo_Jx4a65c_remove_915e3_19 (E : kx_E) : kx_look 19 (cd_Jx4a65c_remove_915e3 E) = t_al 20 2 := funext fun _ => rfl
theorem lo_Jx4a65c_remove_915e3_20 (E : kx_E) : kx_look 20 (cd_Jx4a65c_remove_915e3 E) = t_il 21 1 := funext fun _ => rfl
theorem lo_Jx4a65c_remove_915e3_21 (E : kx_E) : kx_look 21 (cd_Jx4a65c_remove_915e3 E) = t_call (c1t_Jx4a65c_fastRemove_b59b0 E) 24 3 1 := funext fun _ => rfl
theorem lo_Jx4a65c_remove_915e3_24 (E : kx_E) : kx_look 24 (cd_Jx4a65c_remove_915e3 E) = t_al 25 3 := funext fun _ => rfl
theorem lo_Jx4a65c_remove_915e3_25 (E : kx_E) : kx_look 25 (cd_Jx4a65c_remove_915e3 E) = t_aret := funext fun _ => rfl
