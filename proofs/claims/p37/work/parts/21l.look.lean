theorem lo_X9_ofCrop_0 (E : kx_E) : kx_look 0 (cd_X9_ofCrop E) = t_al 1 0 := funext fun _ => rfl
theorem lo_X9_ofCrop_1 (E : kx_E) : kx_look 1 (cd_X9_ofCrop E) = t_il 2 1 := funext fun _ => rfl
theorem lo_X9_ofCrop_2 (E : kx_E) : kx_look 2 (cd_X9_ofCrop E) = t_fun (f2_X9_cropAt E) 0 0 5 2 := funext fun _ => rfl
theorem lo_X9_ofCrop_5 (E : kx_E) : kx_look 5 (cd_X9_ofCrop E) = t_as 6 3 := funext fun _ => rfl
theorem lo_X9_ofCrop_6 (E : kx_E) : kx_look 6 (cd_X9_ofCrop E) = t_il 7 2 := funext fun _ => rfl
theorem lo_X9_ofCrop_7 (E : kx_E) : kx_look 7 (cd_X9_ofCrop E) = t_push 8 (.int 0) := funext fun _ => rfl
theorem lo_X9_ofCrop_8 (E : kx_E) : kx_look 8 (cd_X9_ofCrop E) = t_push 9 (.int 5) := funext fun _ => rfl
theorem lo_X9_ofCrop_9 (E : kx_E) : kx_look 9 (cd_X9_ofCrop E) = t_fun (f2_X9_isWithin E) 0 0 12 3 := funext fun _ => rfl
theorem lo_X9_ofCrop_12 (E : kx_E) : kx_look 12 (cd_X9_ofCrop E) = t_if 15 26 (fun x => x ≠ 0) := funext fun _ => rfl
theorem lo_X9_ofCrop_15 (E : kx_E) : kx_look 15 (cd_X9_ofCrop E) = t_no := funext fun _ => rfl
theorem lo_X9_ofCrop_26 (E : kx_E) : kx_look 26 (cd_X9_ofCrop E) = t_al 27 3 := funext fun _ => rfl
theorem lo_X9_ofCrop_27 (E : kx_E) : kx_look 27 (cd_X9_ofCrop E) = t_il 28 2 := funext fun _ => rfl
theorem lo_X9_ofCrop_28 (E : kx_E) : kx_look 28 (cd_X9_ofCrop E) = t_fun (f2_X3_numberOf E) 0 0 31 2 := funext fun _ => rfl
theorem lo_X9_ofCrop_31 (E : kx_E) : kx_look 31 (cd_X9_ofCrop E) = t_iret := funext fun _ => rfl
theorem lo_X9_ofLot_0 (E : kx_E) : kx_look 0 (cd_X9_ofLot E) = t_al 1 0 := funext fun _ => rfl
theorem lo_X9_ofLot_1 (E : kx_E) : kx_look 1 (cd_X9_ofLot E) = t_il 2 1 := funext fun _ => rfl
theorem lo_X9_ofLot_2 (E : kx_E) : kx_look 2 (cd_X9_ofLot E) = t_fun (f2_X9_lotAt E) 0 0 5 2 := funext fun _ => rfl
theorem lo_X9_ofLot_5 (E : kx_E) : kx_look 5 (cd_X9_ofLot E) = t_as 6 3 := funext fun _ => rfl
theorem lo_X9_ofLot_6 (E : kx_E) : kx_look 6 (cd_X9_ofLot E) = t_il 7 2 := funext fun _ => rfl
theorem lo_X9_ofLot_7 (E : kx_E) : kx_look 7 (cd_X9_ofLot E) = t_push 8 (.int 0) := funext fun _ => rfl
theorem lo_X9_ofLot_8 (E : kx_E) : kx_look 8 (cd_X9_ofLot E) = t_push 10 (.int 9) := funext fun _ => rfl
theorem lo_X9_ofLot_10 (E : kx_E) : kx_look 10 (cd_X9_ofLot E) = t_fun (f2_X9_isWithin E) 0 0 13 3 := funext fun _ => rfl
theorem lo_X9_ofLot_13 (E : kx_E) : kx_look 13 (cd_X9_ofLot E) = t_if 16 27 (fun x => x ≠ 0) := funext fun _ => rfl
theorem lo_X9_ofLot_16 (E : kx_E) : kx_look 16 (cd_X9_ofLot E) = t_no := funext fun _ => rfl
theorem lo_X9_ofLot_27 (E : kx_E) : kx_look 27 (cd_X9_ofLot E) = t_al 28 3 := funext fun _ => rfl
theorem lo_X9_ofLot_28 (E : kx_E) : kx_look 28 (cd_X9_ofLot E) = t_il 29 2 := funext fun _ => rfl
theorem lo_X9_ofLot_29 (E : kx_E) : kx_look 29 (cd_X9_ofLot E) = t_fun (f2_X5_numberOf E) 0 0 32 2 := funext fun _ => rfl
theorem lo_X9_ofLot_32 (E : kx_E) : kx_look 32 (cd_X9_ofLot E) = t_iret := funext fun _ => rfl
theorem lo_X9_ofGrower_0 (E : kx_E) : kx_look 0 (cd_X9_ofGrower E) = t_al 1 0 := funext fun _ => rfl
theorem lo_X9_ofGrower_1 (E : kx_E) : kx_look 1 (cd_X9_ofGrower E) = t_il 2 1 := funext fun _ => rfl
theorem lo_X9_ofGrower_2 (E : kx_E) : kx_look 2 (cd_X9_ofGrower E) = t_fun (f2_X9_growerAt E) 0 0 5 2 := funext fun _ => rfl
theorem lo_X9_ofGrower_5 (E : kx_E) : kx_look 5 (cd_X9_ofGrower E) = t_as 6 3 := funext fun _ => rfl
theorem lo_X9_ofGrower_6 (E : kx_E) : kx_look 6 (cd_X9_ofGrower E) = t_il 7 2 := funext fun _ => rfl
theorem lo_X9_ofGrower_7 (E : kx_E) : kx_look 7 (cd_X9_ofGrower E) = t_push 8 (.int 0) := funext fun _ => rfl
theorem lo_X9_ofGrower_8 (E : kx_E) : kx_look 8 (cd_X9_ofGrower E) = t_push 9 (.int 4) := funext fun _ => rfl
theorem lo_X9_ofGrower_9 (E : kx_E) : kx_look 9 (cd_X9_ofGrower E) = t_fun (f2_X9_isWithin E) 0 0 12 3 := funext fun _ => rfl
theorem lo_X9_ofGrower_12 (E : kx_E) : kx_look 12 (cd_X9_ofGrower E) = t_if 15 26 (fun x => x ≠ 0) := funext fun _ => rfl
theorem lo_X9_ofGrower_15 (E : kx_E) : kx_look 15 (cd_X9_ofGrower E) = t_no := funext fun _ => rfl
theorem lo_X9_ofGrower_26 (E : kx_E) : kx_look 26 (cd_X9_ofGrower E) = t_al 27 3 := funext fun _ => rfl
theorem lo_X9_ofGrower_27 (E : kx_E) : kx_look 27 (cd_X9_ofGrower E) = t_il 28 2 := funext fun _ => rfl
theorem lo_X9_ofGrower_28 (E : kx_E) : kx_look 28 (cd_X9_ofGrower E) = t_fun (f2_X4_numberOf E) 0 0 31 2 := funext fun _ => rfl
theorem lo_X9_ofGrower_31 (E : kx_E) : kx_look 31 (cd_X9_ofGrower E) = t_iret := funext fun _ => rfl
theorem lo_X9_ofBuyer_0 (E : kx_E) : kx_look 0 (cd_X9_ofBuyer E) = t_al 1 0 := funext fun _ => rfl
theorem lo_X9_ofBuyer_1 (E : kx_E) : kx_look 1 (cd_X9_ofBuyer E) = t_il 2 1 := funext fun _ => rfl
theorem lo_X9_ofBuyer_2 (E : kx_E) : kx_look 2 (cd_X9_ofBuyer E) = t_fun (f2_X9_buyerAt E) 0 0 5 2 := funext fun _ => rfl
theorem lo_X9_ofBuyer_5 (E : kx_E) : kx_look 5 (cd_X9_ofBuyer E) = t_as 6 3 := funext fun _ => rfl
theorem lo_X9_ofBuyer_6 (E : kx_E) : kx_look 6 (cd_X9_ofBuyer E) = t_il 7 2 := funext fun _ => rfl
theorem lo_X9_ofBuyer_7 (E : kx_E) : kx_look 7 (cd_X9_ofBuyer E) = t_push 8 (.int 0) := funext fun _ => rfl
theorem lo_X9_ofBuyer_8 (E : kx_E) : kx_look 8 (cd_X9_ofBuyer E) = t_push 10 (.int 8) := funext fun _ => rfl
theorem lo_X9_ofBuyer_10 (E : kx_E) : kx_look 10 (cd_X9_ofBuyer E) = t_fun (f2_X9_isWithin E) 0 0 13 3 := funext fun _ => rfl
theorem lo_X9_ofBuyer_13 (E : kx_E) : kx_look 13 (cd_X9_ofBuyer E) = t_if 16 27 (fun x => x ≠ 0) := funext fun _ => rfl
theorem lo_X9_ofBuyer_16 (E : kx_E) : kx_look 16 (cd_X9_ofBuyer E) = t_no := funext fun _ => rfl
theorem lo_X9_ofBuyer_27 (E : kx_E) : kx_look 27 (cd_X9_ofBuyer E) = t_al 28 3 := funext fun _ => rfl
theorem lo_X9_ofBuyer_28 (E : kx_E) : kx_look 28 (cd_X9_ofBuyer E) = t_il 29 2 := funext fun _ => rfl
theorem lo_X9_ofBuyer_29 (E : kx_E) : kx_look 29 (cd_X9_ofBuyer E) = t_fun (f2_X0_numberOf E) 0 0 32 2 := funext fun _ => rfl
theorem lo_X9_ofBuyer_32 (E : kx_E) : kx_look 32 (cd_X9_ofBuyer E) = t_iret := funext fun _ => rfl
theorem lo_X9_readyIn_0 (E : kx_E) : kx_look 0 (cd_X9_readyIn E) = t_al 1 0 := funext fun _ => rfl
theorem lo_X9_readyIn_1 (E : kx_E) : kx_look 1 (cd_X9_readyIn E) = t_al 2 0 := funext fun _ => rfl
theorem lo_X9_readyIn_2 (E : kx_E) : kx_look 2 (cd_X9_readyIn E) = t_il 3 1 := funext fun _ => rfl
theorem lo_X9_readyIn_3 (E : kx_E) : kx_look 3 (cd_X9_readyIn E) = t_fun (f2_X9_cropAt E) 0 0 6 2 := funext fun _ => rfl
theorem lo_X9_readyIn_6 (E : kx_E) : kx_look 6 (cd_X9_readyIn E) = t_fun (f2_X9_hoursUntilReady E) 0 0 9 2 := funext fun _ => rfl
theorem lo_X9_readyIn_9 (E : kx_E) : kx_look 9 (cd_X9_readyIn E) = t_iret := funext fun _ => rfl
theorem lo_X9_row_0 (E : kx_E) : kx_look 0 (cd_X9_row E) = t_il 1 1 := funext fun _ => rfl
theorem lo_X9_row_1 (E : kx_E) : kx_look 1 (cd_X9_row E) = t_if 4 15 (fun x => 0 ≤ x) := funext fun _ => rfl
theorem lo_X9_row_4 (E : kx_E) : kx_look 4 (cd_X9_row E) = t_no := funext fun _ => rfl
theorem lo_X9_row_15 (E : kx_E) : kx_look 15 (cd_X9_row E) = t_al 16 0 := funext fun _ => rfl
theorem lo_X9_row_16 (E : kx_E) : kx_look 16 (cd_X9_row E) = t_il 17 1 := funext fun _ => rfl
theorem lo_X9_row_17 (E : kx_E) : kx_look 17 (cd_X9_row E) = t_fun (f2_X9_lotInRow E) 0 0 20 2 := funext fun _ => rfl
theorem lo_X9_row_20 (E : kx_E) : kx_look 20 (cd_X9_row E) = t_iret := funext fun _ => rfl
