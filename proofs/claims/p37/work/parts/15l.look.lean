theorem lo_X2_begin_0 (E : kx_E) : kx_look 0 (cd_X2_begin E) = t_al 1 0 := funext fun _ => rfl
theorem lo_X2_begin_1 (E : kx_E) : kx_look 1 (cd_X2_begin E) = t_al 2 1 := funext fun _ => rfl
theorem lo_X2_begin_2 (E : kx_E) : kx_look 2 (cd_X2_begin E) = t_gI 5 7 123 := funext fun _ => rfl
theorem lo_X2_begin_5 (E : kx_E) : kx_look 5 (cd_X2_begin E) = t_pI 8 4 60 := funext fun _ => rfl
theorem lo_X2_begin_8 (E : kx_E) : kx_look 8 (cd_X2_begin E) = t_al 9 0 := funext fun _ => rfl
theorem lo_X2_begin_9 (E : kx_E) : kx_look 9 (cd_X2_begin E) = t_al 10 1 := funext fun _ => rfl
theorem lo_X2_begin_10 (E : kx_E) : kx_look 10 (cd_X2_begin E) = t_gI 13 7 124 := funext fun _ => rfl
theorem lo_X2_begin_13 (E : kx_E) : kx_look 13 (cd_X2_begin E) = t_pI 16 4 61 := funext fun _ => rfl
theorem lo_X2_begin_16 (E : kx_E) : kx_look 16 (cd_X2_begin E) = t_al 17 0 := funext fun _ => rfl
theorem lo_X2_begin_17 (E : kx_E) : kx_look 17 (cd_X2_begin E) = t_il 18 2 := funext fun _ => rfl
theorem lo_X2_begin_18 (E : kx_E) : kx_look 18 (cd_X2_begin E) = t_al 19 1 := funext fun _ => rfl
theorem lo_X2_begin_19 (E : kx_E) : kx_look 19 (cd_X2_begin E) = t_gI 22 7 126 := funext fun _ => rfl
theorem lo_X2_begin_22 (E : kx_E) : kx_look 22 (cd_X2_begin E) = t_mm 25 (fun x y => if y < x then y else x) := funext fun _ => rfl
theorem lo_X2_begin_25 (E : kx_E) : kx_look 25 (cd_X2_begin E) = t_pI 28 4 62 := funext fun _ => rfl
theorem lo_X2_begin_28 (E : kx_E) : kx_look 28 (cd_X2_begin E) = t_al 29 0 := funext fun _ => rfl
theorem lo_X2_begin_29 (E : kx_E) : kx_look 29 (cd_X2_begin E) = t_al 30 1 := funext fun _ => rfl
theorem lo_X2_begin_30 (E : kx_E) : kx_look 30 (cd_X2_begin E) = t_gR 33 7 121 := funext fun _ => rfl
theorem lo_X2_begin_33 (E : kx_E) : kx_look 33 (cd_X2_begin E) = t_gI 36 6 103 := funext fun _ => rfl
theorem lo_X2_begin_36 (E : kx_E) : kx_look 36 (cd_X2_begin E) = t_pI 39 4 63 := funext fun _ => rfl
theorem lo_X2_begin_39 (E : kx_E) : kx_look 39 (cd_X2_begin E) = t_al 40 0 := funext fun _ => rfl
theorem lo_X2_begin_40 (E : kx_E) : kx_look 40 (cd_X2_begin E) = t_il 41 3 := funext fun _ => rfl
theorem lo_X2_begin_41 (E : kx_E) : kx_look 41 (cd_X2_begin E) = t_pI 44 4 64 := funext fun _ => rfl
theorem lo_X2_begin_44 (E : kx_E) : kx_look 44 (cd_X2_begin E) = t_al 45 0 := funext fun _ => rfl
theorem lo_X2_begin_45 (E : kx_E) : kx_look 45 (cd_X2_begin E) = t_push 47 (.int 99) := funext fun _ => rfl
theorem lo_X2_begin_47 (E : kx_E) : kx_look 47 (cd_X2_begin E) = t_pI 50 4 65 := funext fun _ => rfl
theorem lo_X2_begin_50 (E : kx_E) : kx_look 50 (cd_X2_begin E) = t_al 51 0 := funext fun _ => rfl
theorem lo_X2_begin_51 (E : kx_E) : kx_look 51 (cd_X2_begin E) = t_al 52 1 := funext fun _ => rfl
theorem lo_X2_begin_52 (E : kx_E) : kx_look 52 (cd_X2_begin E) = t_gI 55 7 125 := funext fun _ => rfl
theorem lo_X2_begin_55 (E : kx_E) : kx_look 55 (cd_X2_begin E) = t_pI 58 4 66 := funext fun _ => rfl
theorem lo_X2_begin_58 (E : kx_E) : kx_look 58 (cd_X2_begin E) = t_al 59 0 := funext fun _ => rfl
theorem lo_X2_begin_59 (E : kx_E) : kx_look 59 (cd_X2_begin E) = t_al 60 1 := funext fun _ => rfl
theorem lo_X2_begin_60 (E : kx_E) : kx_look 60 (cd_X2_begin E) = t_gI 63 7 127 := funext fun _ => rfl
theorem lo_X2_begin_63 (E : kx_E) : kx_look 63 (cd_X2_begin E) = t_pI 66 4 67 := funext fun _ => rfl
theorem lo_X2_begin_66 (E : kx_E) : kx_look 66 (cd_X2_begin E) = t_push 67 (.int 0) := funext fun _ => rfl
theorem lo_X2_begin_67 (E : kx_E) : kx_look 67 (cd_X2_begin E) = t_is 69 6 := funext fun _ => rfl
theorem lo_X2_begin_69 (E : kx_E) : kx_look 69 (cd_X2_begin E) = t_il 71 6 := funext fun _ => rfl
theorem lo_X2_begin_71 (E : kx_E) : kx_look 71 (cd_X2_begin E) = t_al 73 4 := funext fun _ => rfl
theorem lo_X2_begin_73 (E : kx_E) : kx_look 73 (cd_X2_begin E) = t_fun (f2_Jx4a65c_size_8abf5 E) 0 0 76 1 := funext fun _ => rfl
theorem lo_X2_begin_76 (E : kx_E) : kx_look 76 (cd_X2_begin E) = t_ic 79 133 (fun x y => y ≤ x) := funext fun _ => rfl
theorem lo_X2_begin_79 (E : kx_E) : kx_look 79 (cd_X2_begin E) = t_al 81 4 := funext fun _ => rfl
theorem lo_X2_begin_81 (E : kx_E) : kx_look 81 (cd_X2_begin E) = t_il 83 6 := funext fun _ => rfl
theorem lo_X2_begin_83 (E : kx_E) : kx_look 83 (cd_X2_begin E) = t_fun (f2_Jx4a65c_get_915e3 E) 0 0 86 2 := funext fun _ => rfl
theorem lo_X2_begin_86 (E : kx_E) : kx_look 86 (cd_X2_begin E) = t_cst 89 2 := funext fun _ => rfl
theorem lo_X2_begin_89 (E : kx_E) : kx_look 89 (cd_X2_begin E) = t_as 91 7 := funext fun _ => rfl
theorem lo_X2_begin_91 (E : kx_E) : kx_look 91 (cd_X2_begin E) = t_al 93 7 := funext fun _ => rfl
theorem lo_X2_begin_93 (E : kx_E) : kx_look 93 (cd_X2_begin E) = t_al 95 7 := funext fun _ => rfl
theorem lo_X2_begin_95 (E : kx_E) : kx_look 95 (cd_X2_begin E) = t_gI 98 2 23 := funext fun _ => rfl
theorem lo_X2_begin_98 (E : kx_E) : kx_look 98 (cd_X2_begin E) = t_pI 101 2 28 := funext fun _ => rfl
theorem lo_X2_begin_101 (E : kx_E) : kx_look 101 (cd_X2_begin E) = t_al 103 7 := funext fun _ => rfl
theorem lo_X2_begin_103 (E : kx_E) : kx_look 103 (cd_X2_begin E) = t_push 104 (.int 0) := funext fun _ => rfl
theorem lo_X2_begin_104 (E : kx_E) : kx_look 104 (cd_X2_begin E) = t_al 106 7 := funext fun _ => rfl
theorem lo_X2_begin_106 (E : kx_E) : kx_look 106 (cd_X2_begin E) = t_gI 109 2 21 := funext fun _ => rfl
theorem lo_X2_begin_109 (E : kx_E) : kx_look 109 (cd_X2_begin E) = t_al 111 7 := funext fun _ => rfl
theorem lo_X2_begin_111 (E : kx_E) : kx_look 111 (cd_X2_begin E) = t_gI 114 2 24 := funext fun _ => rfl
theorem lo_X2_begin_114 (E : kx_E) : kx_look 114 (cd_X2_begin E) = t_bin 115 (fun x y => x - y) := funext fun _ => rfl
theorem lo_X2_begin_115 (E : kx_E) : kx_look 115 (cd_X2_begin E) = t_mm 118 (fun x y => if x < y then y else x) := funext fun _ => rfl
theorem lo_X2_begin_118 (E : kx_E) : kx_look 118 (cd_X2_begin E) = t_pI 121 2 29 := funext fun _ => rfl
theorem lo_X2_begin_121 (E : kx_E) : kx_look 121 (cd_X2_begin E) = t_al 123 7 := funext fun _ => rfl
theorem lo_X2_begin_123 (E : kx_E) : kx_look 123 (cd_X2_begin E) = t_push 124 (.int 0) := funext fun _ => rfl
theorem lo_X2_begin_124 (E : kx_E) : kx_look 124 (cd_X2_begin E) = t_pZ 127 2 30 := funext fun _ => rfl
theorem lo_X2_begin_127 (E : kx_E) : kx_look 127 (cd_X2_begin E) = t_inc 130 6 1 := funext fun _ => rfl
theorem lo_X2_begin_130 (E : kx_E) : kx_look 130 (cd_X2_begin E) = t_gk 69 7 := funext fun _ => rfl
theorem lo_X2_begin_133 (E : kx_E) : kx_look 133 (cd_X2_begin E) = t_push 134 (.int 0) := funext fun _ => rfl
theorem lo_X2_begin_134 (E : kx_E) : kx_look 134 (cd_X2_begin E) = t_is 136 6 := funext fun _ => rfl
theorem lo_X2_begin_136 (E : kx_E) : kx_look 136 (cd_X2_begin E) = t_il 138 6 := funext fun _ => rfl
theorem lo_X2_begin_138 (E : kx_E) : kx_look 138 (cd_X2_begin E) = t_al 140 5 := funext fun _ => rfl
theorem lo_X2_begin_140 (E : kx_E) : kx_look 140 (cd_X2_begin E) = t_fun (f2_Jx4a65c_size_8abf5 E) 0 0 143 1 := funext fun _ => rfl
theorem lo_X2_begin_143 (E : kx_E) : kx_look 143 (cd_X2_begin E) = t_ic 146 174 (fun x y => y ≤ x) := funext fun _ => rfl
theorem lo_X2_begin_146 (E : kx_E) : kx_look 146 (cd_X2_begin E) = t_al 148 5 := funext fun _ => rfl
theorem lo_X2_begin_148 (E : kx_E) : kx_look 148 (cd_X2_begin E) = t_il 150 6 := funext fun _ => rfl
theorem lo_X2_begin_150 (E : kx_E) : kx_look 150 (cd_X2_begin E) = t_fun (f2_Jx4a65c_get_915e3 E) 0 0 153 2 := funext fun _ => rfl
theorem lo_X2_begin_153 (E : kx_E) : kx_look 153 (cd_X2_begin E) = t_cst 156 8 := funext fun _ => rfl
theorem lo_X2_begin_156 (E : kx_E) : kx_look 156 (cd_X2_begin E) = t_as 158 7 := funext fun _ => rfl
theorem lo_X2_begin_158 (E : kx_E) : kx_look 158 (cd_X2_begin E) = t_al 160 7 := funext fun _ => rfl
theorem lo_X2_begin_160 (E : kx_E) : kx_look 160 (cd_X2_begin E) = t_al 162 7 := funext fun _ => rfl
theorem lo_X2_begin_162 (E : kx_E) : kx_look 162 (cd_X2_begin E) = t_gI 165 8 146 := funext fun _ => rfl
theorem lo_X2_begin_165 (E : kx_E) : kx_look 165 (cd_X2_begin E) = t_pI 168 8 147 := funext fun _ => rfl
theorem lo_X2_begin_168 (E : kx_E) : kx_look 168 (cd_X2_begin E) = t_inc 171 6 1 := funext fun _ => rfl
theorem lo_X2_begin_171 (E : kx_E) : kx_look 171 (cd_X2_begin E) = t_gk 136 7 := funext fun _ => rfl
theorem lo_X2_begin_174 (E : kx_E) : kx_look 174 (cd_X2_begin E) = t_vret := funext fun _ => rfl
theorem lo_X2_firstToPress_0 (E : kx_E) : kx_look 0 (cd_X2_firstToPress E) = t_push 1 .null := funext fun _ => rfl
theorem lo_X2_firstToPress_1 (E : kx_E) : kx_look 1 (cd_X2_firstToPress E) = t_as 2 2 := funext fun _ => rfl
theorem lo_X2_firstToPress_2 (E : kx_E) : kx_look 2 (cd_X2_firstToPress E) = t_push 3 (.int 0) := funext fun _ => rfl
theorem lo_X2_firstToPress_3 (E : kx_E) : kx_look 3 (cd_X2_firstToPress E) = t_is 4 3 := funext fun _ => rfl
theorem lo_X2_firstToPress_4 (E : kx_E) : kx_look 4 (cd_X2_firstToPress E) = t_il 5 3 := funext fun _ => rfl
theorem lo_X2_firstToPress_5 (E : kx_E) : kx_look 5 (cd_X2_firstToPress E) = t_al 6 1 := funext fun _ => rfl
theorem lo_X2_firstToPress_6 (E : kx_E) : kx_look 6 (cd_X2_firstToPress E) = t_fun (f2_Jx4a65c_size_8abf5 E) 0 0 9 1 := funext fun _ => rfl
theorem lo_X2_firstToPress_9 (E : kx_E) : kx_look 9 (cd_X2_firstToPress E) = t_ic 12 54 (fun x y => y ≤ x) := funext fun _ => rfl
theorem lo_X2_firstToPress_12 (E : kx_E) : kx_look 12 (cd_X2_firstToPress E) = t_al 13 1 := funext fun _ => rfl
theorem lo_X2_firstToPress_13 (E : kx_E) : kx_look 13 (cd_X2_firstToPress E) = t_il 14 3 := funext fun _ => rfl
theorem lo_X2_firstToPress_14 (E : kx_E) : kx_look 14 (cd_X2_firstToPress E) = t_fun (f2_Jx4a65c_get_915e3 E) 0 0 17 2 := funext fun _ => rfl
theorem lo_X2_firstToPress_17 (E : kx_E) : kx_look 17 (cd_X2_firstToPress E) = t_cst 20 8 := funext fun _ => rfl
theorem lo_X2_firstToPress_20 (E : kx_E) : kx_look 20 (cd_X2_firstToPress E) = t_as 22 4 := funext fun _ => rfl
theorem lo_X2_firstToPress_22 (E : kx_E) : kx_look 22 (cd_X2_firstToPress E) = t_al 23 0 := funext fun _ => rfl
theorem lo_X2_firstToPress_23 (E : kx_E) : kx_look 23 (cd_X2_firstToPress E) = t_al 25 4 := funext fun _ => rfl
theorem lo_X2_firstToPress_25 (E : kx_E) : kx_look 25 (cd_X2_firstToPress E) = t_fun (f2_X2_fits E) 0 0 28 2 := funext fun _ => rfl
theorem lo_X2_firstToPress_28 (E : kx_E) : kx_look 28 (cd_X2_firstToPress E) = t_if 31 48 (fun x => x = 0) := funext fun _ => rfl
theorem lo_X2_firstToPress_31 (E : kx_E) : kx_look 31 (cd_X2_firstToPress E) = t_al 32 2 := funext fun _ => rfl
theorem lo_X2_firstToPress_32 (E : kx_E) : kx_look 32 (cd_X2_firstToPress E) = t_nul 45 35 := funext fun _ => rfl
theorem lo_X2_firstToPress_35 (E : kx_E) : kx_look 35 (cd_X2_firstToPress E) = t_al 36 0 := funext fun _ => rfl
theorem lo_X2_firstToPress_36 (E : kx_E) : kx_look 36 (cd_X2_firstToPress E) = t_al 38 4 := funext fun _ => rfl
theorem lo_X2_firstToPress_38 (E : kx_E) : kx_look 38 (cd_X2_firstToPress E) = t_al 39 2 := funext fun _ => rfl
theorem lo_X2_firstToPress_39 (E : kx_E) : kx_look 39 (cd_X2_firstToPress E) = t_fun (f2_X2_isAhead E) 0 0 42 3 := funext fun _ => rfl
theorem lo_X2_firstToPress_42 (E : kx_E) : kx_look 42 (cd_X2_firstToPress E) = t_if 45 48 (fun x => x = 0) := funext fun _ => rfl
theorem lo_X2_firstToPress_45 (E : kx_E) : kx_look 45 (cd_X2_firstToPress E) = t_al 47 4 := funext fun _ => rfl
theorem lo_X2_firstToPress_47 (E : kx_E) : kx_look 47 (cd_X2_firstToPress E) = t_as 48 2 := funext fun _ => rfl
theorem lo_X2_firstToPress_48 (E : kx_E) : kx_look 48 (cd_X2_firstToPress E) = t_inc 51 3 1 := funext fun _ => rfl
theorem lo_X2_firstToPress_51 (E : kx_E) : kx_look 51 (cd_X2_firstToPress E) = t_gk 4 4 := funext fun _ => rfl
theorem lo_X2_firstToPress_54 (E : kx_E) : kx_look 54 (cd_X2_firstToPress E) = t_al 55 2 := funext fun _ => rfl
theorem lo_X2_firstToPress_55 (E : kx_E) : kx_look 55 (cd_X2_firstToPress E) = t_aret := funext fun _ => rfl
