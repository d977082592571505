theorem lo_X9_growerAt_0 (E : kx_E) : kx_look 0 (cd_X9_growerAt E) = t_il 1 1 := funext fun _ => rfl
theorem lo_X9_growerAt_1 (E : kx_E) : kx_look 1 (cd_X9_growerAt E) = t_if 4 15 (fun x => x < 0) := funext fun _ => rfl
theorem lo_X9_growerAt_4 (E : kx_E) : kx_look 4 (cd_X9_growerAt E) = t_il 5 1 := funext fun _ => rfl
theorem lo_X9_growerAt_5 (E : kx_E) : kx_look 5 (cd_X9_growerAt E) = t_al 6 0 := funext fun _ => rfl
theorem lo_X9_growerAt_6 (E : kx_E) : kx_look 6 (cd_X9_growerAt E) = t_gR 9 11 200 := funext fun _ => rfl
theorem lo_X9_growerAt_9 (E : kx_E) : kx_look 9 (cd_X9_growerAt E) = t_fun (f2_Jx4a65c_size_8abf5 E) 0 0 12 1 := funext fun _ => rfl
theorem lo_X9_growerAt_12 (E : kx_E) : kx_look 12 (cd_X9_growerAt E) = t_ic 15 26 (fun x y => x < y) := funext fun _ => rfl
theorem lo_X9_growerAt_15 (E : kx_E) : kx_look 15 (cd_X9_growerAt E) = t_no := funext fun _ => rfl
theorem lo_X9_growerAt_26 (E : kx_E) : kx_look 26 (cd_X9_growerAt E) = t_al 27 0 := funext fun _ => rfl
theorem lo_X9_growerAt_27 (E : kx_E) : kx_look 27 (cd_X9_growerAt E) = t_gR 30 11 200 := funext fun _ => rfl
theorem lo_X9_growerAt_30 (E : kx_E) : kx_look 30 (cd_X9_growerAt E) = t_il 31 1 := funext fun _ => rfl
theorem lo_X9_growerAt_31 (E : kx_E) : kx_look 31 (cd_X9_growerAt E) = t_fun (f2_Jx4a65c_get_915e3 E) 0 0 34 2 := funext fun _ => rfl
theorem lo_X9_growerAt_34 (E : kx_E) : kx_look 34 (cd_X9_growerAt E) = t_cst 37 6 := funext fun _ => rfl
theorem lo_X9_growerAt_37 (E : kx_E) : kx_look 37 (cd_X9_growerAt E) = t_aret := funext fun _ => rfl
theorem lo_X9_cropAt_0 (E : kx_E) : kx_look 0 (cd_X9_cropAt E) = t_il 1 1 := funext fun _ => rfl
theorem lo_X9_cropAt_1 (E : kx_E) : kx_look 1 (cd_X9_cropAt E) = t_if 4 15 (fun x => x < 0) := funext fun _ => rfl
theorem lo_X9_cropAt_4 (E : kx_E) : kx_look 4 (cd_X9_cropAt E) = t_il 5 1 := funext fun _ => rfl
theorem lo_X9_cropAt_5 (E : kx_E) : kx_look 5 (cd_X9_cropAt E) = t_al 6 0 := funext fun _ => rfl
theorem lo_X9_cropAt_6 (E : kx_E) : kx_look 6 (cd_X9_cropAt E) = t_gR 9 11 201 := funext fun _ => rfl
theorem lo_X9_cropAt_9 (E : kx_E) : kx_look 9 (cd_X9_cropAt E) = t_fun (f2_Jx4a65c_size_8abf5 E) 0 0 12 1 := funext fun _ => rfl
theorem lo_X9_cropAt_12 (E : kx_E) : kx_look 12 (cd_X9_cropAt E) = t_ic 15 26 (fun x y => x < y) := funext fun _ => rfl
theorem lo_X9_cropAt_15 (E : kx_E) : kx_look 15 (cd_X9_cropAt E) = t_no := funext fun _ => rfl
theorem lo_X9_cropAt_26 (E : kx_E) : kx_look 26 (cd_X9_cropAt E) = t_al 27 0 := funext fun _ => rfl
theorem lo_X9_cropAt_27 (E : kx_E) : kx_look 27 (cd_X9_cropAt E) = t_gR 30 11 201 := funext fun _ => rfl
theorem lo_X9_cropAt_30 (E : kx_E) : kx_look 30 (cd_X9_cropAt E) = t_il 31 1 := funext fun _ => rfl
theorem lo_X9_cropAt_31 (E : kx_E) : kx_look 31 (cd_X9_cropAt E) = t_fun (f2_Jx4a65c_get_915e3 E) 0 0 34 2 := funext fun _ => rfl
theorem lo_X9_cropAt_34 (E : kx_E) : kx_look 34 (cd_X9_cropAt E) = t_cst 37 5 := funext fun _ => rfl
theorem lo_X9_cropAt_37 (E : kx_E) : kx_look 37 (cd_X9_cropAt E) = t_aret := funext fun _ => rfl
theorem lo_X9_lotAt_0 (E : kx_E) : kx_look 0 (cd_X9_lotAt E) = t_il 1 1 := funext fun _ => rfl
theorem lo_X9_lotAt_1 (E : kx_E) : kx_look 1 (cd_X9_lotAt E) = t_if 4 15 (fun x => x < 0) := funext fun _ => rfl
theorem lo_X9_lotAt_4 (E : kx_E) : kx_look 4 (cd_X9_lotAt E) = t_il 5 1 := funext fun _ => rfl
theorem lo_X9_lotAt_5 (E : kx_E) : kx_look 5 (cd_X9_lotAt E) = t_al 6 0 := funext fun _ => rfl
theorem lo_X9_lotAt_6 (E : kx_E) : kx_look 6 (cd_X9_lotAt E) = t_gR 9 11 202 := funext fun _ => rfl
theorem lo_X9_lotAt_9 (E : kx_E) : kx_look 9 (cd_X9_lotAt E) = t_fun (f2_Jx4a65c_size_8abf5 E) 0 0 12 1 := funext fun _ => rfl
theorem lo_X9_lotAt_12 (E : kx_E) : kx_look 12 (cd_X9_lotAt E) = t_ic 15 26 (fun x y => x < y) := funext fun _ => rfl
theorem lo_X9_lotAt_15 (E : kx_E) : kx_look 15 (cd_X9_lotAt E) = t_no := funext fun _ => rfl
theorem lo_X9_lotAt_26 (E : kx_E) : kx_look 26 (cd_X9_lotAt E) = t_al 27 0 := funext fun _ => rfl
theorem lo_X9_lotAt_27 (E : kx_E) : kx_look 27 (cd_X9_lotAt E) = t_gR 30 11 202 := funext fun _ => rfl
theorem lo_X9_lotAt_30 (E : kx_E) : kx_look 30 (cd_X9_lotAt E) = t_il 31 1 := funext fun _ => rfl
theorem lo_X9_lotAt_31 (E : kx_E) : kx_look 31 (cd_X9_lotAt E) = t_fun (f2_Jx4a65c_get_915e3 E) 0 0 34 2 := funext fun _ => rfl
theorem lo_X9_lotAt_34 (E : kx_E) : kx_look 34 (cd_X9_lotAt E) = t_cst 37 7 := funext fun _ => rfl
theorem lo_X9_lotAt_37 (E : kx_E) : kx_look 37 (cd_X9_lotAt E) = t_aret := funext fun _ => rfl
theorem lo_X9_buyerAt_0 (E : kx_E) : kx_look 0 (cd_X9_buyerAt E) = t_il 1 1 := funext fun _ => rfl
theorem lo_X9_buyerAt_1 (E : kx_E) : kx_look 1 (cd_X9_buyerAt E) = t_if 4 15 (fun x => x < 0) := funext fun _ => rfl
theorem lo_X9_buyerAt_4 (E : kx_E) : kx_look 4 (cd_X9_buyerAt E) = t_il 5 1 := funext fun _ => rfl
theorem lo_X9_buyerAt_5 (E : kx_E) : kx_look 5 (cd_X9_buyerAt E) = t_al 6 0 := funext fun _ => rfl
theorem lo_X9_buyerAt_6 (E : kx_E) : kx_look 6 (cd_X9_buyerAt E) = t_gR 9 11 204 := funext fun _ => rfl
theorem lo_X9_buyerAt_9 (E : kx_E) : kx_look 9 (cd_X9_buyerAt E) = t_fun (f2_Jx4a65c_size_8abf5 E) 0 0 12 1 := funext fun _ => rfl
theorem lo_X9_buyerAt_12 (E : kx_E) : kx_look 12 (cd_X9_buyerAt E) = t_ic 15 26 (fun x y => x < y) := funext fun _ => rfl
theorem lo_X9_buyerAt_15 (E : kx_E) : kx_look 15 (cd_X9_buyerAt E) = t_no := funext fun _ => rfl
theorem lo_X9_buyerAt_26 (E : kx_E) : kx_look 26 (cd_X9_buyerAt E) = t_al 27 0 := funext fun _ => rfl
theorem lo_X9_buyerAt_27 (E : kx_E) : kx_look 27 (cd_X9_buyerAt E) = t_gR 30 11 204 := funext fun _ => rfl
theorem lo_X9_buyerAt_30 (E : kx_E) : kx_look 30 (cd_X9_buyerAt E) = t_il 31 1 := funext fun _ => rfl
theorem lo_X9_buyerAt_31 (E : kx_E) : kx_look 31 (cd_X9_buyerAt E) = t_fun (f2_Jx4a65c_get_915e3 E) 0 0 34 2 := funext fun _ => rfl
theorem lo_X9_buyerAt_34 (E : kx_E) : kx_look 34 (cd_X9_buyerAt E) = t_cst 37 2 := funext fun _ => rfl
theorem lo_X9_buyerAt_37 (E : kx_E) : kx_look 37 (cd_X9_buyerAt E) = t_aret := funext fun _ => rfl
theorem lo_X9_lotInRow_0 (E : kx_E) : kx_look 0 (cd_X9_lotInRow E) = t_il 1 1 := funext fun _ => rfl
theorem lo_X9_lotInRow_1 (E : kx_E) : kx_look 1 (cd_X9_lotInRow E) = t_if 4 15 (fun x => x < 0) := funext fun _ => rfl
theorem lo_X9_lotInRow_4 (E : kx_E) : kx_look 4 (cd_X9_lotInRow E) = t_il 5 1 := funext fun _ => rfl
theorem lo_X9_lotInRow_5 (E : kx_E) : kx_look 5 (cd_X9_lotInRow E) = t_al 6 0 := funext fun _ => rfl
theorem lo_X9_lotInRow_6 (E : kx_E) : kx_look 6 (cd_X9_lotInRow E) = t_gR 9 11 203 := funext fun _ => rfl
theorem lo_X9_lotInRow_9 (E : kx_E) : kx_look 9 (cd_X9_lotInRow E) = t_fun (f2_Jx4a65c_size_8abf5 E) 0 0 12 1 := funext fun _ => rfl
theorem lo_X9_lotInRow_12 (E : kx_E) : kx_look 12 (cd_X9_lotInRow E) = t_ic 15 17 (fun x y => x < y) := funext fun _ => rfl
theorem lo_X9_lotInRow_15 (E : kx_E) : kx_look 15 (cd_X9_lotInRow E) = t_push 16 (.int (-1)) := funext fun _ => rfl
theorem lo_X9_lotInRow_16 (E : kx_E) : kx_look 16 (cd_X9_lotInRow E) = t_iret := funext fun _ => rfl
theorem lo_X9_lotInRow_17 (E : kx_E) : kx_look 17 (cd_X9_lotInRow E) = t_al 18 0 := funext fun _ => rfl
theorem lo_X9_lotInRow_18 (E : kx_E) : kx_look 18 (cd_X9_lotInRow E) = t_gR 21 11 203 := funext fun _ => rfl
theorem lo_X9_lotInRow_21 (E : kx_E) : kx_look 21 (cd_X9_lotInRow E) = t_il 22 1 := funext fun _ => rfl
theorem lo_X9_lotInRow_22 (E : kx_E) : kx_look 22 (cd_X9_lotInRow E) = t_fun (f2_Jx4a65c_get_915e3 E) 0 0 25 2 := funext fun _ => rfl
theorem lo_X9_lotInRow_25 (E : kx_E) : kx_look 25 (cd_X9_lotInRow E) = t_cst 28 7 := funext fun _ => rfl
theorem lo_X9_lotInRow_28 (E : kx_E) : kx_look 28 (cd_X9_lotInRow E) = t_gI 31 7 120 := funext fun _ => rfl
theorem lo_X9_lotInRow_31 (E : kx_E) : kx_look 31 (cd_X9_lotInRow E) = t_iret := funext fun _ => rfl
theorem lo_X9_hoursUntilReady_0 (E : kx_E) : kx_look 0 (cd_X9_hoursUntilReady E) = t_al 1 1 := funext fun _ => rfl
theorem lo_X9_hoursUntilReady_1 (E : kx_E) : kx_look 1 (cd_X9_hoursUntilReady E) = t_gI 4 5 85 := funext fun _ => rfl
theorem lo_X9_hoursUntilReady_4 (E : kx_E) : kx_look 4 (cd_X9_hoursUntilReady E) = t_if 7 9 (fun x => x = 0) := funext fun _ => rfl
theorem lo_X9_hoursUntilReady_7 (E : kx_E) : kx_look 7 (cd_X9_hoursUntilReady E) = t_push 8 (.int 0) := funext fun _ => rfl
theorem lo_X9_hoursUntilReady_8 (E : kx_E) : kx_look 8 (cd_X9_hoursUntilReady E) = t_iret := funext fun _ => rfl
theorem lo_X9_hoursUntilReady_9 (E : kx_E) : kx_look 9 (cd_X9_hoursUntilReady E) = t_al 10 0 := funext fun _ => rfl
theorem lo_X9_hoursUntilReady_10 (E : kx_E) : kx_look 10 (cd_X9_hoursUntilReady E) = t_gI 13 11 211 := funext fun _ => rfl
theorem lo_X9_hoursUntilReady_13 (E : kx_E) : kx_look 13 (cd_X9_hoursUntilReady E) = t_al 14 1 := funext fun _ => rfl
theorem lo_X9_hoursUntilReady_14 (E : kx_E) : kx_look 14 (cd_X9_hoursUntilReady E) = t_gR 17 5 80 := funext fun _ => rfl
theorem lo_X9_hoursUntilReady_17 (E : kx_E) : kx_look 17 (cd_X9_hoursUntilReady E) = t_gI 20 6 102 := funext fun _ => rfl
theorem lo_X9_hoursUntilReady_20 (E : kx_E) : kx_look 20 (cd_X9_hoursUntilReady E) = t_bin 21 (fun x y => x + y) := funext fun _ => rfl
theorem lo_X9_hoursUntilReady_21 (E : kx_E) : kx_look 21 (cd_X9_hoursUntilReady E) = t_is 22 2 := funext fun _ => rfl
theorem lo_X9_hoursUntilReady_22 (E : kx_E) : kx_look 22 (cd_X9_hoursUntilReady E) = t_il 23 2 := funext fun _ => rfl
theorem lo_X9_hoursUntilReady_23 (E : kx_E) : kx_look 23 (cd_X9_hoursUntilReady E) = t_push 24 (.int 1) := funext fun _ => rfl
theorem lo_X9_hoursUntilReady_24 (E : kx_E) : kx_look 24 (cd_X9_hoursUntilReady E) = t_ic 27 29 (fun x y => y ≤ x) := funext fun _ => rfl
theorem lo_X9_hoursUntilReady_27 (E : kx_E) : kx_look 27 (cd_X9_hoursUntilReady E) = t_push 28 (.int (-1)) := funext fun _ => rfl
theorem lo_X9_hoursUntilReady_28 (E : kx_E) : kx_look 28 (cd_X9_hoursUntilReady E) = t_iret := funext fun _ => rfl
theorem lo_X9_hoursUntilReady_29 (E : kx_E) : kx_look 29 (cd_X9_hoursUntilReady E) = t_al 30 1 := funext fun _ => rfl
theorem lo_X9_hoursUntilReady_30 (E : kx_E) : kx_look 30 (cd_X9_hoursUntilReady E) = t_gI 33 5 82 := funext fun _ => rfl
theorem lo_X9_hoursUntilReady_33 (E : kx_E) : kx_look 33 (cd_X9_hoursUntilReady E) = t_fun (f2_X9_sumAsked E) 0 0 36 1 := funext fun _ => rfl
theorem lo_X9_hoursUntilReady_36 (E : kx_E) : kx_look 36 (cd_X9_hoursUntilReady E) = t_al 37 1 := funext fun _ => rfl
theorem lo_X9_hoursUntilReady_37 (E : kx_E) : kx_look 37 (cd_X9_hoursUntilReady E) = t_gI 40 5 84 := funext fun _ => rfl
theorem lo_X9_hoursUntilReady_40 (E : kx_E) : kx_look 40 (cd_X9_hoursUntilReady E) = t_bin 41 (fun x y => x - y) := funext fun _ => rfl
theorem lo_X9_hoursUntilReady_41 (E : kx_E) : kx_look 41 (cd_X9_hoursUntilReady E) = t_il 42 2 := funext fun _ => rfl
theorem lo_X9_hoursUntilReady_42 (E : kx_E) : kx_look 42 (cd_X9_hoursUntilReady E) = t_bin 43 (fun x y => x + y) := funext fun _ => rfl
theorem lo_X9_hoursUntilReady_43 (E : kx_E) : kx_look 43 (cd_X9_hoursUntilReady E) = t_push 44 (.int 1) := funext fun _ => rfl
theorem lo_X9_hoursUntilReady_44 (E : kx_E) : kx_look 44 (cd_X9_hoursUntilReady E) = t_bin 45 (fun x y => x - y) := funext fun _ => rfl
theorem lo_X9_hoursUntilReady_45 (E : kx_E) : kx_look 45 (cd_X9_hoursUntilReady E) = t_il 46 2 := funext fun _ => rfl
theorem lo_X9_hoursUntilReady_46 (E : kx_E) : kx_look 46 (cd_X9_hoursUntilReady E) = t_dv 47 (fun x y => x / y) := funext fun _ => rfl
theorem lo_X9_hoursUntilReady_47 (E : kx_E) : kx_look 47 (cd_X9_hoursUntilReady E) = t_iret := funext fun _ => rfl
