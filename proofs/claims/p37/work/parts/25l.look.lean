theorem lo_X9_wouldFetch_0 (E : kx_E) : kx_look 0 (cd_X9_wouldFetch E) = t_al 1 0 := funext fun _ => rfl
theorem lo_X9_wouldFetch_1 (E : kx_E) : kx_look 1 (cd_X9_wouldFetch E) = t_al 2 0 := funext fun _ => rfl
theorem lo_X9_wouldFetch_2 (E : kx_E) : kx_look 2 (cd_X9_wouldFetch E) = t_il 3 1 := funext fun _ => rfl
theorem lo_X9_wouldFetch_3 (E : kx_E) : kx_look 3 (cd_X9_wouldFetch E) = t_fun (f2_X9_lotAt E) 0 0 6 2 := funext fun _ => rfl
theorem lo_X9_wouldFetch_6 (E : kx_E) : kx_look 6 (cd_X9_wouldFetch E) = t_fun (f2_X9_firstPriceOf E) 0 0 9 2 := funext fun _ => rfl
theorem lo_X9_wouldFetch_9 (E : kx_E) : kx_look 9 (cd_X9_wouldFetch E) = t_iret := funext fun _ => rfl
theorem lo_X9_bestMinimum_0 (E : kx_E) : kx_look 0 (cd_X9_bestMinimum E) = t_al 1 0 := funext fun _ => rfl
theorem lo_X9_bestMinimum_1 (E : kx_E) : kx_look 1 (cd_X9_bestMinimum E) = t_al 2 0 := funext fun _ => rfl
theorem lo_X9_bestMinimum_2 (E : kx_E) : kx_look 2 (cd_X9_bestMinimum E) = t_il 3 1 := funext fun _ => rfl
theorem lo_X9_bestMinimum_3 (E : kx_E) : kx_look 3 (cd_X9_bestMinimum E) = t_fun (f2_X9_lotAt E) 0 0 6 2 := funext fun _ => rfl
theorem lo_X9_bestMinimum_6 (E : kx_E) : kx_look 6 (cd_X9_bestMinimum E) = t_fun (f2_X9_lowestPriceOf E) 0 0 9 2 := funext fun _ => rfl
theorem lo_X9_bestMinimum_9 (E : kx_E) : kx_look 9 (cd_X9_bestMinimum E) = t_iret := funext fun _ => rfl
theorem lo_X9_leastLifeOnRail_0 (E : kx_E) : kx_look 0 (cd_X9_leastLifeOnRail E) = t_al 1 0 := funext fun _ => rfl
theorem lo_X9_leastLifeOnRail_1 (E : kx_E) : kx_look 1 (cd_X9_leastLifeOnRail E) = t_gR 4 11 206 := funext fun _ => rfl
theorem lo_X9_leastLifeOnRail_4 (E : kx_E) : kx_look 4 (cd_X9_leastLifeOnRail E) = t_fun (f2_Jx4a65c_isEmpty_aae02 E) 0 0 7 1 := funext fun _ => rfl
theorem lo_X9_leastLifeOnRail_7 (E : kx_E) : kx_look 7 (cd_X9_leastLifeOnRail E) = t_if 10 12 (fun x => x = 0) := funext fun _ => rfl
theorem lo_X9_leastLifeOnRail_10 (E : kx_E) : kx_look 10 (cd_X9_leastLifeOnRail E) = t_push 11 (.int (-1)) := funext fun _ => rfl
theorem lo_X9_leastLifeOnRail_11 (E : kx_E) : kx_look 11 (cd_X9_leastLifeOnRail E) = t_iret := funext fun _ => rfl
theorem lo_X9_leastLifeOnRail_12 (E : kx_E) : kx_look 12 (cd_X9_leastLifeOnRail E) = t_push 14 (.int 110) := funext fun _ => rfl
theorem lo_X9_leastLifeOnRail_14 (E : kx_E) : kx_look 14 (cd_X9_leastLifeOnRail E) = t_is 15 1 := funext fun _ => rfl
theorem lo_X9_leastLifeOnRail_15 (E : kx_E) : kx_look 15 (cd_X9_leastLifeOnRail E) = t_push 16 (.int 0) := funext fun _ => rfl
theorem lo_X9_leastLifeOnRail_16 (E : kx_E) : kx_look 16 (cd_X9_leastLifeOnRail E) = t_is 17 2 := funext fun _ => rfl
theorem lo_X9_leastLifeOnRail_17 (E : kx_E) : kx_look 17 (cd_X9_leastLifeOnRail E) = t_il 18 2 := funext fun _ => rfl
theorem lo_X9_leastLifeOnRail_18 (E : kx_E) : kx_look 18 (cd_X9_leastLifeOnRail E) = t_al 19 0 := funext fun _ => rfl
theorem lo_X9_leastLifeOnRail_19 (E : kx_E) : kx_look 19 (cd_X9_leastLifeOnRail E) = t_gR 22 11 206 := funext fun _ => rfl
theorem lo_X9_leastLifeOnRail_22 (E : kx_E) : kx_look 22 (cd_X9_leastLifeOnRail E) = t_fun (f2_Jx4a65c_size_8abf5 E) 0 0 25 1 := funext fun _ => rfl
theorem lo_X9_leastLifeOnRail_25 (E : kx_E) : kx_look 25 (cd_X9_leastLifeOnRail E) = t_ic 28 53 (fun x y => y ≤ x) := funext fun _ => rfl
theorem lo_X9_leastLifeOnRail_28 (E : kx_E) : kx_look 28 (cd_X9_leastLifeOnRail E) = t_il 29 1 := funext fun _ => rfl
theorem lo_X9_leastLifeOnRail_29 (E : kx_E) : kx_look 29 (cd_X9_leastLifeOnRail E) = t_al 30 0 := funext fun _ => rfl
theorem lo_X9_leastLifeOnRail_30 (E : kx_E) : kx_look 30 (cd_X9_leastLifeOnRail E) = t_gR 33 11 206 := funext fun _ => rfl
theorem lo_X9_leastLifeOnRail_33 (E : kx_E) : kx_look 33 (cd_X9_leastLifeOnRail E) = t_il 34 2 := funext fun _ => rfl
theorem lo_X9_leastLifeOnRail_34 (E : kx_E) : kx_look 34 (cd_X9_leastLifeOnRail E) = t_fun (f2_Jx4a65c_get_915e3 E) 0 0 37 2 := funext fun _ => rfl
theorem lo_X9_leastLifeOnRail_37 (E : kx_E) : kx_look 37 (cd_X9_leastLifeOnRail E) = t_cst 40 10 := funext fun _ => rfl
theorem lo_X9_leastLifeOnRail_40 (E : kx_E) : kx_look 40 (cd_X9_leastLifeOnRail E) = t_gI 43 10 183 := funext fun _ => rfl
theorem lo_X9_leastLifeOnRail_43 (E : kx_E) : kx_look 43 (cd_X9_leastLifeOnRail E) = t_mm 46 (fun x y => if y < x then y else x) := funext fun _ => rfl
theorem lo_X9_leastLifeOnRail_46 (E : kx_E) : kx_look 46 (cd_X9_leastLifeOnRail E) = t_is 47 1 := funext fun _ => rfl
theorem lo_X9_leastLifeOnRail_47 (E : kx_E) : kx_look 47 (cd_X9_leastLifeOnRail E) = t_inc 50 2 1 := funext fun _ => rfl
theorem lo_X9_leastLifeOnRail_50 (E : kx_E) : kx_look 50 (cd_X9_leastLifeOnRail E) = t_gk 17 3 := funext fun _ => rfl
theorem lo_X9_leastLifeOnRail_53 (E : kx_E) : kx_look 53 (cd_X9_leastLifeOnRail E) = t_il 54 1 := funext fun _ => rfl
theorem lo_X9_leastLifeOnRail_54 (E : kx_E) : kx_look 54 (cd_X9_leastLifeOnRail E) = t_iret := funext fun _ => rfl
