theorem lo_X9_digest_0 (E : kx_E) : kx_look 0 (cd_X9_digest E) = t_push 3 (.long 58185) := funext fun _ => rfl
theorem lo_X9_digest_3 (E : kx_E) : kx_look 3 (cd_X9_digest E) = t_ls 4 1 := funext fun _ => rfl
theorem lo_X9_digest_4 (E : kx_E) : kx_look 4 (cd_X9_digest E) = t_push 5 (.int 0) := funext fun _ => rfl
theorem lo_X9_digest_5 (E : kx_E) : kx_look 5 (cd_X9_digest E) = t_is 6 3 := funext fun _ => rfl
theorem lo_X9_digest_6 (E : kx_E) : kx_look 6 (cd_X9_digest E) = t_il 7 3 := funext fun _ => rfl
theorem lo_X9_digest_7 (E : kx_E) : kx_look 7 (cd_X9_digest E) = t_push 9 (.int 15) := funext fun _ => rfl
theorem lo_X9_digest_9 (E : kx_E) : kx_look 9 (cd_X9_digest E) = t_ic 12 29 (fun x y => y < x) := funext fun _ => rfl
theorem lo_X9_digest_12 (E : kx_E) : kx_look 12 (cd_X9_digest E) = t_ll 13 1 := funext fun _ => rfl
theorem lo_X9_digest_13 (E : kx_E) : kx_look 13 (cd_X9_digest E) = t_al 14 0 := funext fun _ => rfl
theorem lo_X9_digest_14 (E : kx_E) : kx_look 14 (cd_X9_digest E) = t_il 15 3 := funext fun _ => rfl
theorem lo_X9_digest_15 (E : kx_E) : kx_look 15 (cd_X9_digest E) = t_fun (f2_X9_numberOfHall E) 0 0 18 2 := funext fun _ => rfl
theorem lo_X9_digest_18 (E : kx_E) : kx_look 18 (cd_X9_digest E) = t_itl 19 := funext fun _ => rfl
theorem lo_X9_digest_19 (E : kx_E) : kx_look 19 (cd_X9_digest E) = t_fun (f2_X9_mixed E) 0 0 22 2 := funext fun _ => rfl
theorem lo_X9_digest_22 (E : kx_E) : kx_look 22 (cd_X9_digest E) = t_ls 23 1 := funext fun _ => rfl
theorem lo_X9_digest_23 (E : kx_E) : kx_look 23 (cd_X9_digest E) = t_inc 26 3 1 := funext fun _ => rfl
theorem lo_X9_digest_26 (E : kx_E) : kx_look 26 (cd_X9_digest E) = t_gk 6 4 := funext fun _ => rfl
theorem lo_X9_digest_29 (E : kx_E) : kx_look 29 (cd_X9_digest E) = t_al 30 0 := funext fun _ => rfl
theorem lo_X9_digest_30 (E : kx_E) : kx_look 30 (cd_X9_digest E) = t_ll 31 1 := funext fun _ => rfl
theorem lo_X9_digest_31 (E : kx_E) : kx_look 31 (cd_X9_digest E) = t_fun (f2_X9_mixedWithGrowing E) 0 0 34 2 := funext fun _ => rfl
theorem lo_X9_digest_34 (E : kx_E) : kx_look 34 (cd_X9_digest E) = t_ls 35 1 := funext fun _ => rfl
theorem lo_X9_digest_35 (E : kx_E) : kx_look 35 (cd_X9_digest E) = t_al 36 0 := funext fun _ => rfl
theorem lo_X9_digest_36 (E : kx_E) : kx_look 36 (cd_X9_digest E) = t_ll 37 1 := funext fun _ => rfl
theorem lo_X9_digest_37 (E : kx_E) : kx_look 37 (cd_X9_digest E) = t_call (c2t_X9_mixedWithLots E) 40 2 11 := funext fun _ => rfl
theorem lo_X9_digest_40 (E : kx_E) : kx_look 40 (cd_X9_digest E) = t_ls 41 1 := funext fun _ => rfl
theorem lo_X9_digest_41 (E : kx_E) : kx_look 41 (cd_X9_digest E) = t_al 42 0 := funext fun _ => rfl
theorem lo_X9_digest_42 (E : kx_E) : kx_look 42 (cd_X9_digest E) = t_ll 43 1 := funext fun _ => rfl
theorem lo_X9_digest_43 (E : kx_E) : kx_look 43 (cd_X9_digest E) = t_fun (f2_X9_mixedWithTrade E) 0 0 46 2 := funext fun _ => rfl
theorem lo_X9_digest_46 (E : kx_E) : kx_look 46 (cd_X9_digest E) = t_ls 47 1 := funext fun _ => rfl
theorem lo_X9_digest_47 (E : kx_E) : kx_look 47 (cd_X9_digest E) = t_push 48 (.int 0) := funext fun _ => rfl
theorem lo_X9_digest_48 (E : kx_E) : kx_look 48 (cd_X9_digest E) = t_is 49 3 := funext fun _ => rfl
theorem lo_X9_digest_49 (E : kx_E) : kx_look 49 (cd_X9_digest E) = t_il 50 3 := funext fun _ => rfl
theorem lo_X9_digest_50 (E : kx_E) : kx_look 50 (cd_X9_digest E) = t_push 51 (.int 2) := funext fun _ => rfl
theorem lo_X9_digest_51 (E : kx_E) : kx_look 51 (cd_X9_digest E) = t_ic 54 71 (fun x y => y < x) := funext fun _ => rfl
theorem lo_X9_digest_54 (E : kx_E) : kx_look 54 (cd_X9_digest E) = t_ll 55 1 := funext fun _ => rfl
theorem lo_X9_digest_55 (E : kx_E) : kx_look 55 (cd_X9_digest E) = t_al 56 0 := funext fun _ => rfl
theorem lo_X9_digest_56 (E : kx_E) : kx_look 56 (cd_X9_digest E) = t_il 57 3 := funext fun _ => rfl
theorem lo_X9_digest_57 (E : kx_E) : kx_look 57 (cd_X9_digest E) = t_fun (f2_X9_lotInRow E) 0 0 60 2 := funext fun _ => rfl
theorem lo_X9_digest_60 (E : kx_E) : kx_look 60 (cd_X9_digest E) = t_itl 61 := funext fun _ => rfl
theorem lo_X9_digest_61 (E : kx_E) : kx_look 61 (cd_X9_digest E) = t_fun (f2_X9_mixed E) 0 0 64 2 := funext fun _ => rfl
theorem lo_X9_digest_64 (E : kx_E) : kx_look 64 (cd_X9_digest E) = t_ls 65 1 := funext fun _ => rfl
theorem lo_X9_digest_65 (E : kx_E) : kx_look 65 (cd_X9_digest E) = t_inc 68 3 1 := funext fun _ => rfl
theorem lo_X9_digest_68 (E : kx_E) : kx_look 68 (cd_X9_digest E) = t_gk 49 4 := funext fun _ => rfl
theorem lo_X9_digest_71 (E : kx_E) : kx_look 71 (cd_X9_digest E) = t_push 72 (.int 0) := funext fun _ => rfl
theorem lo_X9_digest_72 (E : kx_E) : kx_look 72 (cd_X9_digest E) = t_is 73 3 := funext fun _ => rfl
theorem lo_X9_digest_73 (E : kx_E) : kx_look 73 (cd_X9_digest E) = t_il 74 3 := funext fun _ => rfl
theorem lo_X9_digest_74 (E : kx_E) : kx_look 74 (cd_X9_digest E) = t_push 75 (.int 3) := funext fun _ => rfl
theorem lo_X9_digest_75 (E : kx_E) : kx_look 75 (cd_X9_digest E) = t_ic 78 97 (fun x y => y ≤ x) := funext fun _ => rfl
theorem lo_X9_digest_78 (E : kx_E) : kx_look 78 (cd_X9_digest E) = t_ll 79 1 := funext fun _ => rfl
theorem lo_X9_digest_79 (E : kx_E) : kx_look 79 (cd_X9_digest E) = t_al 80 0 := funext fun _ => rfl
theorem lo_X9_digest_80 (E : kx_E) : kx_look 80 (cd_X9_digest E) = t_il 81 3 := funext fun _ => rfl
theorem lo_X9_digest_81 (E : kx_E) : kx_look 81 (cd_X9_digest E) = t_push 83 (.int 12) := funext fun _ => rfl
theorem lo_X9_digest_83 (E : kx_E) : kx_look 83 (cd_X9_digest E) = t_fun (f2_X9_fewestLamps E) 0 0 86 3 := funext fun _ => rfl
theorem lo_X9_digest_86 (E : kx_E) : kx_look 86 (cd_X9_digest E) = t_itl 87 := funext fun _ => rfl
theorem lo_X9_digest_87 (E : kx_E) : kx_look 87 (cd_X9_digest E) = t_fun (f2_X9_mixed E) 0 0 90 2 := funext fun _ => rfl
theorem lo_X9_digest_90 (E : kx_E) : kx_look 90 (cd_X9_digest E) = t_ls 91 1 := funext fun _ => rfl
theorem lo_X9_digest_91 (E : kx_E) : kx_look 91 (cd_X9_digest E) = t_inc 94 3 1 := funext fun _ => rfl
theorem lo_X9_digest_94 (E : kx_E) : kx_look 94 (cd_X9_digest E) = t_gk 73 4 := funext fun _ => rfl
theorem lo_X9_digest_97 (E : kx_E) : kx_look 97 (cd_X9_digest E) = t_ll 98 1 := funext fun _ => rfl
theorem lo_X9_digest_98 (E : kx_E) : kx_look 98 (cd_X9_digest E) = t_lret := funext fun _ => rfl
