theorem lo_X2_nextTaker_0 (E : kx_E) : kx_look 0 (cd_X2_nextTaker E) = t_push 1 (.int 0) := funext fun _ => rfl
theorem lo_X2_nextTaker_1 (E : kx_E) : kx_look 1 (cd_X2_nextTaker E) = t_is 2 2 := funext fun _ => rfl
theorem lo_X2_nextTaker_2 (E : kx_E) : kx_look 2 (cd_X2_nextTaker E) = t_il 3 2 := funext fun _ => rfl
theorem lo_X2_nextTaker_3 (E : kx_E) : kx_look 3 (cd_X2_nextTaker E) = t_push 4 (.int 4) := funext fun _ => rfl
theorem lo_X2_nextTaker_4 (E : kx_E) : kx_look 4 (cd_X2_nextTaker E) = t_ic 7 116 (fun x y => y < x) := funext fun _ => rfl
theorem lo_X2_nextTaker_7 (E : kx_E) : kx_look 7 (cd_X2_nextTaker E) = t_al 8 0 := funext fun _ => rfl
theorem lo_X2_nextTaker_8 (E : kx_E) : kx_look 8 (cd_X2_nextTaker E) = t_al 9 1 := funext fun _ => rfl
theorem lo_X2_nextTaker_9 (E : kx_E) : kx_look 9 (cd_X2_nextTaker E) = t_fun (f2_X2_firstToPress E) 0 0 12 2 := funext fun _ => rfl
theorem lo_X2_nextTaker_12 (E : kx_E) : kx_look 12 (cd_X2_nextTaker E) = t_as 13 3 := funext fun _ => rfl
theorem lo_X2_nextTaker_13 (E : kx_E) : kx_look 13 (cd_X2_nextTaker E) = t_al 14 3 := funext fun _ => rfl
theorem lo_X2_nextTaker_14 (E : kx_E) : kx_look 14 (cd_X2_nextTaker E) = t_nul 25 17 := funext fun _ => rfl
theorem lo_X2_nextTaker_17 (E : kx_E) : kx_look 17 (cd_X2_nextTaker E) = t_al 18 0 := funext fun _ => rfl
theorem lo_X2_nextTaker_18 (E : kx_E) : kx_look 18 (cd_X2_nextTaker E) = t_gI 21 4 66 := funext fun _ => rfl
theorem lo_X2_nextTaker_21 (E : kx_E) : kx_look 21 (cd_X2_nextTaker E) = t_push 22 (.int 1) := funext fun _ => rfl
theorem lo_X2_nextTaker_22 (E : kx_E) : kx_look 22 (cd_X2_nextTaker E) = t_ic 25 27 (fun x y => y ≤ x) := funext fun _ => rfl
theorem lo_X2_nextTaker_25 (E : kx_E) : kx_look 25 (cd_X2_nextTaker E) = t_push 26 .null := funext fun _ => rfl
theorem lo_X2_nextTaker_26 (E : kx_E) : kx_look 26 (cd_X2_nextTaker E) = t_aret := funext fun _ => rfl
theorem lo_X2_nextTaker_27 (E : kx_E) : kx_look 27 (cd_X2_nextTaker E) = t_al 28 0 := funext fun _ => rfl
theorem lo_X2_nextTaker_28 (E : kx_E) : kx_look 28 (cd_X2_nextTaker E) = t_gI 31 4 65 := funext fun _ => rfl
theorem lo_X2_nextTaker_31 (E : kx_E) : kx_look 31 (cd_X2_nextTaker E) = t_al 32 0 := funext fun _ => rfl
theorem lo_X2_nextTaker_32 (E : kx_E) : kx_look 32 (cd_X2_nextTaker E) = t_al 33 3 := funext fun _ => rfl
theorem lo_X2_nextTaker_33 (E : kx_E) : kx_look 33 (cd_X2_nextTaker E) = t_fun (f2_X2_stampOf E) 0 0 36 2 := funext fun _ => rfl
theorem lo_X2_nextTaker_36 (E : kx_E) : kx_look 36 (cd_X2_nextTaker E) = t_bin 37 (fun x y => x - y) := funext fun _ => rfl
theorem lo_X2_nextTaker_37 (E : kx_E) : kx_look 37 (cd_X2_nextTaker E) = t_is 39 4 := funext fun _ => rfl
theorem lo_X2_nextTaker_39 (E : kx_E) : kx_look 39 (cd_X2_nextTaker E) = t_il 41 4 := funext fun _ => rfl
theorem lo_X2_nextTaker_41 (E : kx_E) : kx_look 41 (cd_X2_nextTaker E) = t_al 42 0 := funext fun _ => rfl
theorem lo_X2_nextTaker_42 (E : kx_E) : kx_look 42 (cd_X2_nextTaker E) = t_gI 45 4 64 := funext fun _ => rfl
theorem lo_X2_nextTaker_45 (E : kx_E) : kx_look 45 (cd_X2_nextTaker E) = t_ic 48 54 (fun x y => x < y) := funext fun _ => rfl
theorem lo_X2_nextTaker_48 (E : kx_E) : kx_look 48 (cd_X2_nextTaker E) = t_il 50 4 := funext fun _ => rfl
theorem lo_X2_nextTaker_50 (E : kx_E) : kx_look 50 (cd_X2_nextTaker E) = t_push 51 (.int 1) := funext fun _ => rfl
theorem lo_X2_nextTaker_51 (E : kx_E) : kx_look 51 (cd_X2_nextTaker E) = t_ic 54 56 (fun x y => y ≤ x) := funext fun _ => rfl
theorem lo_X2_nextTaker_54 (E : kx_E) : kx_look 54 (cd_X2_nextTaker E) = t_push 55 .null := funext fun _ => rfl
theorem lo_X2_nextTaker_55 (E : kx_E) : kx_look 55 (cd_X2_nextTaker E) = t_aret := funext fun _ => rfl
theorem lo_X2_nextTaker_56 (E : kx_E) : kx_look 56 (cd_X2_nextTaker E) = t_al 57 3 := funext fun _ => rfl
theorem lo_X2_nextTaker_57 (E : kx_E) : kx_look 57 (cd_X2_nextTaker E) = t_gR 60 8 140 := funext fun _ => rfl
theorem lo_X2_nextTaker_60 (E : kx_E) : kx_look 60 (cd_X2_nextTaker E) = t_gI 63 2 28 := funext fun _ => rfl
theorem lo_X2_nextTaker_63 (E : kx_E) : kx_look 63 (cd_X2_nextTaker E) = t_il 65 4 := funext fun _ => rfl
theorem lo_X2_nextTaker_65 (E : kx_E) : kx_look 65 (cd_X2_nextTaker E) = t_dv 66 (fun x y => x / y) := funext fun _ => rfl
theorem lo_X2_nextTaker_66 (E : kx_E) : kx_look 66 (cd_X2_nextTaker E) = t_is 68 5 := funext fun _ => rfl
theorem lo_X2_nextTaker_68 (E : kx_E) : kx_look 68 (cd_X2_nextTaker E) = t_il 70 5 := funext fun _ => rfl
theorem lo_X2_nextTaker_70 (E : kx_E) : kx_look 70 (cd_X2_nextTaker E) = t_al 71 3 := funext fun _ => rfl
theorem lo_X2_nextTaker_71 (E : kx_E) : kx_look 71 (cd_X2_nextTaker E) = t_gI 74 8 147 := funext fun _ => rfl
theorem lo_X2_nextTaker_74 (E : kx_E) : kx_look 74 (cd_X2_nextTaker E) = t_al 75 0 := funext fun _ => rfl
theorem lo_X2_nextTaker_75 (E : kx_E) : kx_look 75 (cd_X2_nextTaker E) = t_gI 78 4 66 := funext fun _ => rfl
theorem lo_X2_nextTaker_78 (E : kx_E) : kx_look 78 (cd_X2_nextTaker E) = t_mm 81 (fun x y => if y < x then y else x) := funext fun _ => rfl
theorem lo_X2_nextTaker_81 (E : kx_E) : kx_look 81 (cd_X2_nextTaker E) = t_mm 84 (fun x y => if y < x then y else x) := funext fun _ => rfl
theorem lo_X2_nextTaker_84 (E : kx_E) : kx_look 84 (cd_X2_nextTaker E) = t_is 86 6 := funext fun _ => rfl
theorem lo_X2_nextTaker_86 (E : kx_E) : kx_look 86 (cd_X2_nextTaker E) = t_il 88 6 := funext fun _ => rfl
theorem lo_X2_nextTaker_88 (E : kx_E) : kx_look 88 (cd_X2_nextTaker E) = t_if 91 102 (fun x => x ≤ 0) := funext fun _ => rfl
theorem lo_X2_nextTaker_91 (E : kx_E) : kx_look 91 (cd_X2_nextTaker E) = t_al 92 0 := funext fun _ => rfl
theorem lo_X2_nextTaker_92 (E : kx_E) : kx_look 92 (cd_X2_nextTaker E) = t_al 93 3 := funext fun _ => rfl
theorem lo_X2_nextTaker_93 (E : kx_E) : kx_look 93 (cd_X2_nextTaker E) = t_il 95 6 := funext fun _ => rfl
theorem lo_X2_nextTaker_95 (E : kx_E) : kx_look 95 (cd_X2_nextTaker E) = t_il 97 4 := funext fun _ => rfl
theorem lo_X2_nextTaker_97 (E : kx_E) : kx_look 97 (cd_X2_nextTaker E) = t_fun (f2_X2_take E) 0 0 100 4 := funext fun _ => rfl
theorem lo_X2_nextTaker_100 (E : kx_E) : kx_look 100 (cd_X2_nextTaker E) = t_al 101 3 := funext fun _ => rfl
theorem lo_X2_nextTaker_101 (E : kx_E) : kx_look 101 (cd_X2_nextTaker E) = t_aret := funext fun _ => rfl
theorem lo_X2_nextTaker_102 (E : kx_E) : kx_look 102 (cd_X2_nextTaker E) = t_al 103 3 := funext fun _ => rfl
theorem lo_X2_nextTaker_103 (E : kx_E) : kx_look 103 (cd_X2_nextTaker E) = t_gR 106 8 140 := funext fun _ => rfl
theorem lo_X2_nextTaker_106 (E : kx_E) : kx_look 106 (cd_X2_nextTaker E) = t_push 107 (.int 1) := funext fun _ => rfl
theorem lo_X2_nextTaker_107 (E : kx_E) : kx_look 107 (cd_X2_nextTaker E) = t_pZ 110 2 30 := funext fun _ => rfl
theorem lo_X2_nextTaker_110 (E : kx_E) : kx_look 110 (cd_X2_nextTaker E) = t_inc 113 2 1 := funext fun _ => rfl
theorem lo_X2_nextTaker_113 (E : kx_E) : kx_look 113 (cd_X2_nextTaker E) = t_gk 2 3 := funext fun _ => rfl
theorem lo_X2_nextTaker_116 (E : kx_E) : kx_look 116 (cd_X2_nextTaker E) = t_push 117 .null := funext fun _ => rfl
theorem lo_X2_nextTaker_117 (E : kx_E) : kx_look 117 (cd_X2_nextTaker E) = t_aret := funext fun _ => rfl
