theorem lo_X9_bring_0 (E : kx_E) : kx_look 0 (cd_X9_bring E) = t_al 1 0 := funext fun _ => rfl
theorem lo_X9_bring_1 (E : kx_E) : kx_look 1 (cd_X9_bring E) = t_il 2 1 := funext fun _ => rfl
theorem lo_X9_bring_2 (E : kx_E) : kx_look 2 (cd_X9_bring E) = t_fun (f2_X9_lotAt E) 0 0 5 2 := funext fun _ => rfl
theorem lo_X9_bring_5 (E : kx_E) : kx_look 5 (cd_X9_bring E) = t_as 7 4 := funext fun _ => rfl
theorem lo_X9_bring_7 (E : kx_E) : kx_look 7 (cd_X9_bring E) = t_il 8 2 := funext fun _ => rfl
theorem lo_X9_bring_8 (E : kx_E) : kx_look 8 (cd_X9_bring E) = t_push 9 (.int 0) := funext fun _ => rfl
theorem lo_X9_bring_9 (E : kx_E) : kx_look 9 (cd_X9_bring E) = t_push 11 (.int 110) := funext fun _ => rfl
theorem lo_X9_bring_11 (E : kx_E) : kx_look 11 (cd_X9_bring E) = t_fun (f2_X9_isWithin E) 0 0 14 3 := funext fun _ => rfl
theorem lo_X9_bring_14 (E : kx_E) : kx_look 14 (cd_X9_bring E) = t_if 17 27 (fun x => x = 0) := funext fun _ => rfl
theorem lo_X9_bring_17 (E : kx_E) : kx_look 17 (cd_X9_bring E) = t_il 18 3 := funext fun _ => rfl
theorem lo_X9_bring_18 (E : kx_E) : kx_look 18 (cd_X9_bring E) = t_push 19 (.int 1) := funext fun _ => rfl
theorem lo_X9_bring_19 (E : kx_E) : kx_look 19 (cd_X9_bring E) = t_push 21 (.int 99) := funext fun _ => rfl
theorem lo_X9_bring_21 (E : kx_E) : kx_look 21 (cd_X9_bring E) = t_fun (f2_X9_isWithin E) 0 0 24 3 := funext fun _ => rfl
theorem lo_X9_bring_24 (E : kx_E) : kx_look 24 (cd_X9_bring E) = t_if 27 37 (fun x => x ≠ 0) := funext fun _ => rfl
theorem lo_X9_bring_27 (E : kx_E) : kx_look 27 (cd_X9_bring E) = t_no := funext fun _ => rfl
theorem lo_X9_bring_37 (E : kx_E) : kx_look 37 (cd_X9_bring E) = t_al 39 4 := funext fun _ => rfl
theorem lo_X9_bring_39 (E : kx_E) : kx_look 39 (cd_X9_bring E) = t_gR 42 7 121 := funext fun _ => rfl
theorem lo_X9_bring_42 (E : kx_E) : kx_look 42 (cd_X9_bring E) = t_gR 45 6 100 := funext fun _ => rfl
theorem lo_X9_bring_45 (E : kx_E) : kx_look 45 (cd_X9_bring E) = t_as 47 5 := funext fun _ => rfl
theorem lo_X9_bring_47 (E : kx_E) : kx_look 47 (cd_X9_bring E) = t_al 49 5 := funext fun _ => rfl
theorem lo_X9_bring_49 (E : kx_E) : kx_look 49 (cd_X9_bring E) = t_al 51 4 := funext fun _ => rfl
theorem lo_X9_bring_51 (E : kx_E) : kx_look 51 (cd_X9_bring E) = t_gI 54 7 123 := funext fun _ => rfl
theorem lo_X9_bring_54 (E : kx_E) : kx_look 54 (cd_X9_bring E) = t_fun (f2_X1_of E) 0 0 57 2 := funext fun _ => rfl
theorem lo_X9_bring_57 (E : kx_E) : kx_look 57 (cd_X9_bring E) = t_al 59 4 := funext fun _ => rfl
theorem lo_X9_bring_59 (E : kx_E) : kx_look 59 (cd_X9_bring E) = t_gI 62 7 125 := funext fun _ => rfl
theorem lo_X9_bring_62 (E : kx_E) : kx_look 62 (cd_X9_bring E) = t_bin 63 (fun x y => x + y) := funext fun _ => rfl
theorem lo_X9_bring_63 (E : kx_E) : kx_look 63 (cd_X9_bring E) = t_is 65 6 := funext fun _ => rfl
theorem lo_X9_bring_65 (E : kx_E) : kx_look 65 (cd_X9_bring E) = t_al 67 4 := funext fun _ => rfl
theorem lo_X9_bring_67 (E : kx_E) : kx_look 67 (cd_X9_bring E) = t_gI 70 7 129 := funext fun _ => rfl
theorem lo_X9_bring_70 (E : kx_E) : kx_look 70 (cd_X9_bring E) = t_if 73 90 (fun x => x ≠ 0) := funext fun _ => rfl
theorem lo_X9_bring_73 (E : kx_E) : kx_look 73 (cd_X9_bring E) = t_il 75 6 := funext fun _ => rfl
theorem lo_X9_bring_75 (E : kx_E) : kx_look 75 (cd_X9_bring E) = t_al 76 0 := funext fun _ => rfl
theorem lo_X9_bring_76 (E : kx_E) : kx_look 76 (cd_X9_bring E) = t_gR 79 11 208 := funext fun _ => rfl
theorem lo_X9_bring_79 (E : kx_E) : kx_look 79 (cd_X9_bring E) = t_al 81 4 := funext fun _ => rfl
theorem lo_X9_bring_81 (E : kx_E) : kx_look 81 (cd_X9_bring E) = t_gI 84 7 123 := funext fun _ => rfl
theorem lo_X9_bring_84 (E : kx_E) : kx_look 84 (cd_X9_bring E) = t_fun (f2_X1_of E) 0 0 87 2 := funext fun _ => rfl
theorem lo_X9_bring_87 (E : kx_E) : kx_look 87 (cd_X9_bring E) = t_ic 90 100 (fun x y => x ≤ y) := funext fun _ => rfl
theorem lo_X9_bring_90 (E : kx_E) : kx_look 90 (cd_X9_bring E) = t_no := funext fun _ => rfl
theorem lo_X9_bring_100 (E : kx_E) : kx_look 100 (cd_X9_bring E) = t_al 102 5 := funext fun _ => rfl
theorem lo_X9_bring_102 (E : kx_E) : kx_look 102 (cd_X9_bring E) = t_al 104 4 := funext fun _ => rfl
theorem lo_X9_bring_104 (E : kx_E) : kx_look 104 (cd_X9_bring E) = t_gI 107 7 123 := funext fun _ => rfl
theorem lo_X9_bring_107 (E : kx_E) : kx_look 107 (cd_X9_bring E) = t_il 109 6 := funext fun _ => rfl
theorem lo_X9_bring_109 (E : kx_E) : kx_look 109 (cd_X9_bring E) = t_fun (f2_X1_put E) 0 0 112 3 := funext fun _ => rfl
theorem lo_X9_bring_112 (E : kx_E) : kx_look 112 (cd_X9_bring E) = t_al 114 4 := funext fun _ => rfl
theorem lo_X9_bring_114 (E : kx_E) : kx_look 114 (cd_X9_bring E) = t_il 115 2 := funext fun _ => rfl
theorem lo_X9_bring_115 (E : kx_E) : kx_look 115 (cd_X9_bring E) = t_pI 118 7 130 := funext fun _ => rfl
theorem lo_X9_bring_118 (E : kx_E) : kx_look 118 (cd_X9_bring E) = t_al 120 4 := funext fun _ => rfl
theorem lo_X9_bring_120 (E : kx_E) : kx_look 120 (cd_X9_bring E) = t_il 121 3 := funext fun _ => rfl
theorem lo_X9_bring_121 (E : kx_E) : kx_look 121 (cd_X9_bring E) = t_pI 124 7 131 := funext fun _ => rfl
theorem lo_X9_bring_124 (E : kx_E) : kx_look 124 (cd_X9_bring E) = t_al 126 4 := funext fun _ => rfl
theorem lo_X9_bring_126 (E : kx_E) : kx_look 126 (cd_X9_bring E) = t_push 127 (.int 1) := funext fun _ => rfl
theorem lo_X9_bring_127 (E : kx_E) : kx_look 127 (cd_X9_bring E) = t_pI 130 7 129 := funext fun _ => rfl
theorem lo_X9_bring_130 (E : kx_E) : kx_look 130 (cd_X9_bring E) = t_al 131 0 := funext fun _ => rfl
theorem lo_X9_bring_131 (E : kx_E) : kx_look 131 (cd_X9_bring E) = t_gR 134 11 203 := funext fun _ => rfl
theorem lo_X9_bring_134 (E : kx_E) : kx_look 134 (cd_X9_bring E) = t_al 136 4 := funext fun _ => rfl
theorem lo_X9_bring_136 (E : kx_E) : kx_look 136 (cd_X9_bring E) = t_fun (f2_Jx4a65c_add_9ea2d E) 1 1500 139 2 := funext fun _ => rfl
theorem lo_X9_bring_139 (E : kx_E) : kx_look 139 (cd_X9_bring E) = t_pop 140 := funext fun _ => rfl
theorem lo_X9_bring_140 (E : kx_E) : kx_look 140 (cd_X9_bring E) = t_al 141 0 := funext fun _ => rfl
theorem lo_X9_bring_141 (E : kx_E) : kx_look 141 (cd_X9_bring E) = t_gR 144 11 203 := funext fun _ => rfl
theorem lo_X9_bring_144 (E : kx_E) : kx_look 144 (cd_X9_bring E) = t_fun (f2_Jx4a65c_size_8abf5 E) 0 0 147 1 := funext fun _ => rfl
theorem lo_X9_bring_147 (E : kx_E) : kx_look 147 (cd_X9_bring E) = t_iret := funext fun _ => rfl
