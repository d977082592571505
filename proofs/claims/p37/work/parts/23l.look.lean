theorem lo_X9_firstPriceOf_0 (E : kx_E) : kx_look 0 (cd_X9_firstPriceOf E) = t_al 1 0 := funext fun _ => rfl
theorem lo_X9_firstPriceOf_1 (E : kx_E) : kx_look 1 (cd_X9_firstPriceOf E) = t_gR 4 11 209 := funext fun _ => rfl
theorem lo_X9_firstPriceOf_4 (E : kx_E) : kx_look 4 (cd_X9_firstPriceOf E) = t_al 5 1 := funext fun _ => rfl
theorem lo_X9_firstPriceOf_5 (E : kx_E) : kx_look 5 (cd_X9_firstPriceOf E) = t_al 6 1 := funext fun _ => rfl
theorem lo_X9_firstPriceOf_6 (E : kx_E) : kx_look 6 (cd_X9_firstPriceOf E) = t_gI 9 7 126 := funext fun _ => rfl
theorem lo_X9_firstPriceOf_9 (E : kx_E) : kx_look 9 (cd_X9_firstPriceOf E) = t_push 10 (.int 1) := funext fun _ => rfl
theorem lo_X9_firstPriceOf_10 (E : kx_E) : kx_look 10 (cd_X9_firstPriceOf E) = t_al 11 0 := funext fun _ => rfl
theorem lo_X9_firstPriceOf_11 (E : kx_E) : kx_look 11 (cd_X9_firstPriceOf E) = t_gR 14 11 204 := funext fun _ => rfl
theorem lo_X9_firstPriceOf_14 (E : kx_E) : kx_look 14 (cd_X9_firstPriceOf E) = t_al 15 0 := funext fun _ => rfl
theorem lo_X9_firstPriceOf_15 (E : kx_E) : kx_look 15 (cd_X9_firstPriceOf E) = t_gR 18 11 205 := funext fun _ => rfl
theorem lo_X9_firstPriceOf_18 (E : kx_E) : kx_look 18 (cd_X9_firstPriceOf E) = t_fun (f2_X2_begin E) 0 0 21 6 := funext fun _ => rfl
theorem lo_X9_firstPriceOf_21 (E : kx_E) : kx_look 21 (cd_X9_firstPriceOf E) = t_al 22 0 := funext fun _ => rfl
theorem lo_X9_firstPriceOf_22 (E : kx_E) : kx_look 22 (cd_X9_firstPriceOf E) = t_gR 25 11 209 := funext fun _ => rfl
theorem lo_X9_firstPriceOf_25 (E : kx_E) : kx_look 25 (cd_X9_firstPriceOf E) = t_al 26 0 := funext fun _ => rfl
theorem lo_X9_firstPriceOf_26 (E : kx_E) : kx_look 26 (cd_X9_firstPriceOf E) = t_gR 29 11 205 := funext fun _ => rfl
theorem lo_X9_firstPriceOf_29 (E : kx_E) : kx_look 29 (cd_X9_firstPriceOf E) = t_fun (f2_X2_nextTaker E) 0 0 32 2 := funext fun _ => rfl
theorem lo_X9_firstPriceOf_32 (E : kx_E) : kx_look 32 (cd_X9_firstPriceOf E) = t_nul 35 39 := funext fun _ => rfl
theorem lo_X9_firstPriceOf_35 (E : kx_E) : kx_look 35 (cd_X9_firstPriceOf E) = t_push 36 (.int (-1)) := funext fun _ => rfl
theorem lo_X9_firstPriceOf_36 (E : kx_E) : kx_look 36 (cd_X9_firstPriceOf E) = t_go 46 := funext fun _ => rfl
theorem lo_X9_firstPriceOf_39 (E : kx_E) : kx_look 39 (cd_X9_firstPriceOf E) = t_al 40 0 := funext fun _ => rfl
theorem lo_X9_firstPriceOf_40 (E : kx_E) : kx_look 40 (cd_X9_firstPriceOf E) = t_gR 43 11 209 := funext fun _ => rfl
theorem lo_X9_firstPriceOf_43 (E : kx_E) : kx_look 43 (cd_X9_firstPriceOf E) = t_gI 46 4 69 := funext fun _ => rfl
theorem lo_X9_firstPriceOf_46 (E : kx_E) : kx_look 46 (cd_X9_firstPriceOf E) = t_iret := funext fun _ => rfl
theorem lo_X9_lowestPriceOf_0 (E : kx_E) : kx_look 0 (cd_X9_lowestPriceOf E) = t_push 2 (.int 99) := funext fun _ => rfl
theorem lo_X9_lowestPriceOf_2 (E : kx_E) : kx_look 2 (cd_X9_lowestPriceOf E) = t_is 3 2 := funext fun _ => rfl
theorem lo_X9_lowestPriceOf_3 (E : kx_E) : kx_look 3 (cd_X9_lowestPriceOf E) = t_al 4 0 := funext fun _ => rfl
theorem lo_X9_lowestPriceOf_4 (E : kx_E) : kx_look 4 (cd_X9_lowestPriceOf E) = t_gR 7 11 209 := funext fun _ => rfl
theorem lo_X9_lowestPriceOf_7 (E : kx_E) : kx_look 7 (cd_X9_lowestPriceOf E) = t_al 8 1 := funext fun _ => rfl
theorem lo_X9_lowestPriceOf_8 (E : kx_E) : kx_look 8 (cd_X9_lowestPriceOf E) = t_al 9 1 := funext fun _ => rfl
theorem lo_X9_lowestPriceOf_9 (E : kx_E) : kx_look 9 (cd_X9_lowestPriceOf E) = t_gI 12 7 126 := funext fun _ => rfl
theorem lo_X9_lowestPriceOf_12 (E : kx_E) : kx_look 12 (cd_X9_lowestPriceOf E) = t_push 13 (.int 1) := funext fun _ => rfl
theorem lo_X9_lowestPriceOf_13 (E : kx_E) : kx_look 13 (cd_X9_lowestPriceOf E) = t_al 14 0 := funext fun _ => rfl
theorem lo_X9_lowestPriceOf_14 (E : kx_E) : kx_look 14 (cd_X9_lowestPriceOf E) = t_gR 17 11 204 := funext fun _ => rfl
theorem lo_X9_lowestPriceOf_17 (E : kx_E) : kx_look 17 (cd_X9_lowestPriceOf E) = t_al 18 0 := funext fun _ => rfl
theorem lo_X9_lowestPriceOf_18 (E : kx_E) : kx_look 18 (cd_X9_lowestPriceOf E) = t_gR 21 11 205 := funext fun _ => rfl
theorem lo_X9_lowestPriceOf_21 (E : kx_E) : kx_look 21 (cd_X9_lowestPriceOf E) = t_fun (f2_X2_begin E) 0 0 24 6 := funext fun _ => rfl
theorem lo_X9_lowestPriceOf_24 (E : kx_E) : kx_look 24 (cd_X9_lowestPriceOf E) = t_push 25 (.int 0) := funext fun _ => rfl
theorem lo_X9_lowestPriceOf_25 (E : kx_E) : kx_look 25 (cd_X9_lowestPriceOf E) = t_is 26 3 := funext fun _ => rfl
theorem lo_X9_lowestPriceOf_26 (E : kx_E) : kx_look 26 (cd_X9_lowestPriceOf E) = t_il 27 3 := funext fun _ => rfl
theorem lo_X9_lowestPriceOf_27 (E : kx_E) : kx_look 27 (cd_X9_lowestPriceOf E) = t_push 30 (.int 200) := funext fun _ => rfl
theorem lo_X9_lowestPriceOf_30 (E : kx_E) : kx_look 30 (cd_X9_lowestPriceOf E) = t_ic 33 65 (fun x y => y ≤ x) := funext fun _ => rfl
theorem lo_X9_lowestPriceOf_33 (E : kx_E) : kx_look 33 (cd_X9_lowestPriceOf E) = t_al 34 0 := funext fun _ => rfl
theorem lo_X9_lowestPriceOf_34 (E : kx_E) : kx_look 34 (cd_X9_lowestPriceOf E) = t_gR 37 11 209 := funext fun _ => rfl
theorem lo_X9_lowestPriceOf_37 (E : kx_E) : kx_look 37 (cd_X9_lowestPriceOf E) = t_al 38 0 := funext fun _ => rfl
theorem lo_X9_lowestPriceOf_38 (E : kx_E) : kx_look 38 (cd_X9_lowestPriceOf E) = t_gR 41 11 205 := funext fun _ => rfl
theorem lo_X9_lowestPriceOf_41 (E : kx_E) : kx_look 41 (cd_X9_lowestPriceOf E) = t_fun (f2_X2_nextTaker E) 0 0 44 2 := funext fun _ => rfl
theorem lo_X9_lowestPriceOf_44 (E : kx_E) : kx_look 44 (cd_X9_lowestPriceOf E) = t_nul 65 47 := funext fun _ => rfl
theorem lo_X9_lowestPriceOf_47 (E : kx_E) : kx_look 47 (cd_X9_lowestPriceOf E) = t_il 48 2 := funext fun _ => rfl
theorem lo_X9_lowestPriceOf_48 (E : kx_E) : kx_look 48 (cd_X9_lowestPriceOf E) = t_al 49 0 := funext fun _ => rfl
theorem lo_X9_lowestPriceOf_49 (E : kx_E) : kx_look 49 (cd_X9_lowestPriceOf E) = t_gR 52 11 209 := funext fun _ => rfl
theorem lo_X9_lowestPriceOf_52 (E : kx_E) : kx_look 52 (cd_X9_lowestPriceOf E) = t_gI 55 4 69 := funext fun _ => rfl
theorem lo_X9_lowestPriceOf_55 (E : kx_E) : kx_look 55 (cd_X9_lowestPriceOf E) = t_mm 58 (fun x y => if y < x then y else x) := funext fun _ => rfl
theorem lo_X9_lowestPriceOf_58 (E : kx_E) : kx_look 58 (cd_X9_lowestPriceOf E) = t_is 59 2 := funext fun _ => rfl
theorem lo_X9_lowestPriceOf_59 (E : kx_E) : kx_look 59 (cd_X9_lowestPriceOf E) = t_inc 62 3 1 := funext fun _ => rfl
theorem lo_X9_lowestPriceOf_62 (E : kx_E) : kx_look 62 (cd_X9_lowestPriceOf E) = t_gk 26 4 := funext fun _ => rfl
theorem lo_X9_lowestPriceOf_65 (E : kx_E) : kx_look 65 (cd_X9_lowestPriceOf E) = t_il 66 2 := funext fun _ => rfl
theorem lo_X9_lowestPriceOf_66 (E : kx_E) : kx_look 66 (cd_X9_lowestPriceOf E) = t_iret := funext fun _ => rfl
