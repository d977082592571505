theorem lo_X9_numberOfHall_0 (E : kx_E) : kx_look 0 (cd_X9_numberOfHall E) = t_il 1 1 := funext fun _ => rfl
theorem lo_X9_numberOfHall_1 (E : kx_E) : kx_look 1 (cd_X9_numberOfHall E) = t_sw [(0, 80), (1, 85), (2, 93), (3, 101), (4, 109), (5, 117), (6, 125), (7, 133), (8, 141), (9, 146), (10, 151), (11, 156), (12, 166), (13, 166), (14, 166), (15, 161)] 166 := funext fun _ => rfl
theorem lo_X9_numberOfHall_80 (E : kx_E) : kx_look 80 (cd_X9_numberOfHall E) = t_al 81 0 := funext fun _ => rfl
theorem lo_X9_numberOfHall_81 (E : kx_E) : kx_look 81 (cd_X9_numberOfHall E) = t_gI 84 11 210 := funext fun _ => rfl
theorem lo_X9_numberOfHall_84 (E : kx_E) : kx_look 84 (cd_X9_numberOfHall E) = t_iret := funext fun _ => rfl
theorem lo_X9_numberOfHall_85 (E : kx_E) : kx_look 85 (cd_X9_numberOfHall E) = t_al 86 0 := funext fun _ => rfl
theorem lo_X9_numberOfHall_86 (E : kx_E) : kx_look 86 (cd_X9_numberOfHall E) = t_gR 89 11 200 := funext fun _ => rfl
theorem lo_X9_numberOfHall_89 (E : kx_E) : kx_look 89 (cd_X9_numberOfHall E) = t_fun (f2_Jx4a65c_size_8abf5 E) 0 0 92 1 := funext fun _ => rfl
theorem lo_X9_numberOfHall_92 (E : kx_E) : kx_look 92 (cd_X9_numberOfHall E) = t_iret := funext fun _ => rfl
theorem lo_X9_numberOfHall_93 (E : kx_E) : kx_look 93 (cd_X9_numberOfHall E) = t_al 94 0 := funext fun _ => rfl
theorem lo_X9_numberOfHall_94 (E : kx_E) : kx_look 94 (cd_X9_numberOfHall E) = t_gR 97 11 201 := funext fun _ => rfl
theorem lo_X9_numberOfHall_97 (E : kx_E) : kx_look 97 (cd_X9_numberOfHall E) = t_fun (f2_Jx4a65c_size_8abf5 E) 0 0 100 1 := funext fun _ => rfl
theorem lo_X9_numberOfHall_100 (E : kx_E) : kx_look 100 (cd_X9_numberOfHall E) = t_iret := funext fun _ => rfl
theorem lo_X9_numberOfHall_101 (E : kx_E) : kx_look 101 (cd_X9_numberOfHall E) = t_al 102 0 := funext fun _ => rfl
theorem lo_X9_numberOfHall_102 (E : kx_E) : kx_look 102 (cd_X9_numberOfHall E) = t_gR 105 11 202 := funext fun _ => rfl
theorem lo_X9_numberOfHall_105 (E : kx_E) : kx_look 105 (cd_X9_numberOfHall E) = t_fun (f2_Jx4a65c_size_8abf5 E) 0 0 108 1 := funext fun _ => rfl
theorem lo_X9_numberOfHall_108 (E : kx_E) : kx_look 108 (cd_X9_numberOfHall E) = t_iret := funext fun _ => rfl
theorem lo_X9_numberOfHall_109 (E : kx_E) : kx_look 109 (cd_X9_numberOfHall E) = t_al 110 0 := funext fun _ => rfl
theorem lo_X9_numberOfHall_110 (E : kx_E) : kx_look 110 (cd_X9_numberOfHall E) = t_gR 113 11 204 := funext fun _ => rfl
theorem lo_X9_numberOfHall_113 (E : kx_E) : kx_look 113 (cd_X9_numberOfHall E) = t_fun (f2_Jx4a65c_size_8abf5 E) 0 0 116 1 := funext fun _ => rfl
theorem lo_X9_numberOfHall_116 (E : kx_E) : kx_look 116 (cd_X9_numberOfHall E) = t_iret := funext fun _ => rfl
theorem lo_X9_numberOfHall_117 (E : kx_E) : kx_look 117 (cd_X9_numberOfHall E) = t_al 118 0 := funext fun _ => rfl
theorem lo_X9_numberOfHall_118 (E : kx_E) : kx_look 118 (cd_X9_numberOfHall E) = t_gR 121 11 205 := funext fun _ => rfl
theorem lo_X9_numberOfHall_121 (E : kx_E) : kx_look 121 (cd_X9_numberOfHall E) = t_fun (f2_Jx4a65c_size_8abf5 E) 0 0 124 1 := funext fun _ => rfl
theorem lo_X9_numberOfHall_124 (E : kx_E) : kx_look 124 (cd_X9_numberOfHall E) = t_iret := funext fun _ => rfl
theorem lo_X9_numberOfHall_125 (E : kx_E) : kx_look 125 (cd_X9_numberOfHall E) = t_al 126 0 := funext fun _ => rfl
theorem lo_X9_numberOfHall_126 (E : kx_E) : kx_look 126 (cd_X9_numberOfHall E) = t_gR 129 11 203 := funext fun _ => rfl
theorem lo_X9_numberOfHall_129 (E : kx_E) : kx_look 129 (cd_X9_numberOfHall E) = t_fun (f2_Jx4a65c_size_8abf5 E) 0 0 132 1 := funext fun _ => rfl
theorem lo_X9_numberOfHall_132 (E : kx_E) : kx_look 132 (cd_X9_numberOfHall E) = t_iret := funext fun _ => rfl
theorem lo_X9_numberOfHall_133 (E : kx_E) : kx_look 133 (cd_X9_numberOfHall E) = t_al 134 0 := funext fun _ => rfl
theorem lo_X9_numberOfHall_134 (E : kx_E) : kx_look 134 (cd_X9_numberOfHall E) = t_gR 137 11 206 := funext fun _ => rfl
theorem lo_X9_numberOfHall_137 (E : kx_E) : kx_look 137 (cd_X9_numberOfHall E) = t_fun (f2_Jx4a65c_size_8abf5 E) 0 0 140 1 := funext fun _ => rfl
theorem lo_X9_numberOfHall_140 (E : kx_E) : kx_look 140 (cd_X9_numberOfHall E) = t_iret := funext fun _ => rfl
theorem lo_X9_numberOfHall_141 (E : kx_E) : kx_look 141 (cd_X9_numberOfHall E) = t_al 142 0 := funext fun _ => rfl
theorem lo_X9_numberOfHall_142 (E : kx_E) : kx_look 142 (cd_X9_numberOfHall E) = t_gI 145 11 212 := funext fun _ => rfl
theorem lo_X9_numberOfHall_145 (E : kx_E) : kx_look 145 (cd_X9_numberOfHall E) = t_iret := funext fun _ => rfl
theorem lo_X9_numberOfHall_146 (E : kx_E) : kx_look 146 (cd_X9_numberOfHall E) = t_al 147 0 := funext fun _ => rfl
theorem lo_X9_numberOfHall_147 (E : kx_E) : kx_look 147 (cd_X9_numberOfHall E) = t_gI 150 11 214 := funext fun _ => rfl
theorem lo_X9_numberOfHall_150 (E : kx_E) : kx_look 150 (cd_X9_numberOfHall E) = t_iret := funext fun _ => rfl
theorem lo_X9_numberOfHall_151 (E : kx_E) : kx_look 151 (cd_X9_numberOfHall E) = t_al 152 0 := funext fun _ => rfl
theorem lo_X9_numberOfHall_152 (E : kx_E) : kx_look 152 (cd_X9_numberOfHall E) = t_gI 155 11 215 := funext fun _ => rfl
theorem lo_X9_numberOfHall_155 (E : kx_E) : kx_look 155 (cd_X9_numberOfHall E) = t_iret := funext fun _ => rfl
theorem lo_X9_numberOfHall_156 (E : kx_E) : kx_look 156 (cd_X9_numberOfHall E) = t_al 157 0 := funext fun _ => rfl
theorem lo_X9_numberOfHall_157 (E : kx_E) : kx_look 157 (cd_X9_numberOfHall E) = t_gI 160 11 216 := funext fun _ => rfl
theorem lo_X9_numberOfHall_160 (E : kx_E) : kx_look 160 (cd_X9_numberOfHall E) = t_iret := funext fun _ => rfl
theorem lo_X9_numberOfHall_161 (E : kx_E) : kx_look 161 (cd_X9_numberOfHall E) = t_al 162 0 := funext fun _ => rfl
theorem lo_X9_numberOfHall_162 (E : kx_E) : kx_look 162 (cd_X9_numberOfHall E) = t_fun (f2_X9_leastLifeOnRail E) 0 0 165 1 := funext fun _ => rfl
theorem lo_X9_numberOfHall_165 (E : kx_E) : kx_look 165 (cd_X9_numberOfHall E) = t_iret := funext fun _ => rfl
theorem lo_X9_numberOfHall_166 (E : kx_E) : kx_look 166 (cd_X9_numberOfHall E) = t_al 167 0 := funext fun _ => rfl
theorem lo_X9_numberOfHall_167 (E : kx_E) : kx_look 167 (cd_X9_numberOfHall E) = t_gR 170 11 208 := funext fun _ => rfl
theorem lo_X9_numberOfHall_170 (E : kx_E) : kx_look 170 (cd_X9_numberOfHall E) = t_il 171 1 := funext fun _ => rfl
theorem lo_X9_numberOfHall_171 (E : kx_E) : kx_look 171 (cd_X9_numberOfHall E) = t_push 173 (.int 12) := funext fun _ => rfl
theorem lo_X9_numberOfHall_173 (E : kx_E) : kx_look 173 (cd_X9_numberOfHall E) = t_bin 174 (fun x y => x - y) := funext fun _ => rfl
theorem lo_X9_numberOfHall_174 (E : kx_E) : kx_look 174 (cd_X9_numberOfHall E) = t_fun (f2_X1_of E) 0 0 177 2 := funext fun _ => rfl
theorem lo_X9_numberOfHall_177 (E : kx_E) : kx_look 177 (cd_X9_numberOfHall E) = t_iret := funext fun _ => rfl
