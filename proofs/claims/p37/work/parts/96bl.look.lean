set_option maxRecDepth 16000
theorem lo_L_lawA_0 (E : kx_E) : kx_look 0 (cd_L_lawA E) = t_new 3 11 18 := funext fun _ => rfl
theorem lo_L_lawA_3 (E : kx_E) : kx_look 3 (cd_L_lawA E) = t_dup 4 := funext fun _ => rfl
theorem lo_L_lawA_4 (E : kx_E) : kx_look 4 (cd_L_lawA E) = t_call (c2t_X9_init E) 7 1 11 := funext fun _ => rfl
theorem lo_L_lawA_7 (E : kx_E) : kx_look 7 (cd_L_lawA E) = t_as 8 1 := funext fun _ => rfl
theorem lo_L_lawA_8 (E : kx_E) : kx_look 8 (cd_L_lawA E) = t_push 9 (.int 0) := funext fun _ => rfl
theorem lo_L_lawA_9 (E : kx_E) : kx_look 9 (cd_L_lawA E) = t_is 10 2 := funext fun _ => rfl
theorem lo_L_lawA_10 (E : kx_E) : kx_look 10 (cd_L_lawA E) = t_il 11 2 := funext fun _ => rfl
theorem lo_L_lawA_11 (E : kx_E) : kx_look 11 (cd_L_lawA E) = t_push 12 (.int 3) := funext fun _ => rfl
theorem lo_L_lawA_12 (E : kx_E) : kx_look 12 (cd_L_lawA E) = t_ic 15 49 (fun x y => y ≤ x) := funext fun _ => rfl
theorem lo_L_lawA_15 (E : kx_E) : kx_look 15 (cd_L_lawA E) = t_al 16 1 := funext fun _ => rfl
theorem lo_L_lawA_16 (E : kx_E) : kx_look 16 (cd_L_lawA E) = t_call (c2t_X9_grower E) 19 1 11 := funext fun _ => rfl
theorem lo_L_lawA_19 (E : kx_E) : kx_look 19 (cd_L_lawA E) = t_il 20 2 := funext fun _ => rfl
theorem lo_L_lawA_20 (E : kx_E) : kx_look 20 (cd_L_lawA E) = t_ic 23 41 (fun x y => x ≠ y) := funext fun _ => rfl
theorem lo_L_lawA_23 (E : kx_E) : kx_look 23 (cd_L_lawA E) = t_al 24 1 := funext fun _ => rfl
theorem lo_L_lawA_24 (E : kx_E) : kx_look 24 (cd_L_lawA E) = t_al 25 0 := funext fun _ => rfl
theorem lo_L_lawA_25 (E : kx_E) : kx_look 25 (cd_L_lawA E) = t_il 26 2 := funext fun _ => rfl
theorem lo_L_lawA_26 (E : kx_E) : kx_look 26 (cd_L_lawA E) = t_fun (f2_L_cell E) 0 0 29 2 := funext fun _ => rfl
theorem lo_L_lawA_29 (E : kx_E) : kx_look 29 (cd_L_lawA E) = t_push 31 (.int 10) := funext fun _ => rfl
theorem lo_L_lawA_31 (E : kx_E) : kx_look 31 (cd_L_lawA E) = t_fun (f2_L_below E) 0 0 34 2 := funext fun _ => rfl
theorem lo_L_lawA_34 (E : kx_E) : kx_look 34 (cd_L_lawA E) = t_call (c2t_X9_buyer E) 37 2 11 := funext fun _ => rfl
theorem lo_L_lawA_37 (E : kx_E) : kx_look 37 (cd_L_lawA E) = t_il 38 2 := funext fun _ => rfl
theorem lo_L_lawA_38 (E : kx_E) : kx_look 38 (cd_L_lawA E) = t_ic 41 43 (fun x y => x = y) := funext fun _ => rfl
theorem lo_L_lawA_41 (E : kx_E) : kx_look 41 (cd_L_lawA E) = t_push 42 (.int 0) := funext fun _ => rfl
theorem lo_L_lawA_42 (E : kx_E) : kx_look 42 (cd_L_lawA E) = t_one := funext fun _ => rfl
theorem lo_L_lawA_43 (E : kx_E) : kx_look 43 (cd_L_lawA E) = t_inc 46 2 1 := funext fun _ => rfl
theorem lo_L_lawA_46 (E : kx_E) : kx_look 46 (cd_L_lawA E) = t_gk 10 3 := funext fun _ => rfl
theorem lo_L_lawA_49 (E : kx_E) : kx_look 49 (cd_L_lawA E) = t_push 50 (.int 0) := funext fun _ => rfl
theorem lo_L_lawA_50 (E : kx_E) : kx_look 50 (cd_L_lawA E) = t_is 51 2 := funext fun _ => rfl
theorem lo_L_lawA_51 (E : kx_E) : kx_look 51 (cd_L_lawA E) = t_il 52 2 := funext fun _ => rfl
theorem lo_L_lawA_52 (E : kx_E) : kx_look 52 (cd_L_lawA E) = t_push 54 (.int 6) := funext fun _ => rfl
theorem lo_L_lawA_54 (E : kx_E) : kx_look 54 (cd_L_lawA E) = t_ic 57 100 (fun x y => y ≤ x) := funext fun _ => rfl
theorem lo_L_lawA_57 (E : kx_E) : kx_look 57 (cd_L_lawA E) = t_al 58 1 := funext fun _ => rfl
theorem lo_L_lawA_58 (E : kx_E) : kx_look 58 (cd_L_lawA E) = t_il 59 2 := funext fun _ => rfl
theorem lo_L_lawA_59 (E : kx_E) : kx_look 59 (cd_L_lawA E) = t_push 60 (.int 3) := funext fun _ => rfl
theorem lo_L_lawA_60 (E : kx_E) : kx_look 60 (cd_L_lawA E) = t_dv 61 (fun x y => x - x / y * y) := funext fun _ => rfl
theorem lo_L_lawA_61 (E : kx_E) : kx_look 61 (cd_L_lawA E) = t_al 62 0 := funext fun _ => rfl
theorem lo_L_lawA_62 (E : kx_E) : kx_look 62 (cd_L_lawA E) = t_il 63 2 := funext fun _ => rfl
theorem lo_L_lawA_63 (E : kx_E) : kx_look 63 (cd_L_lawA E) = t_push 64 (.int 3) := funext fun _ => rfl
theorem lo_L_lawA_64 (E : kx_E) : kx_look 64 (cd_L_lawA E) = t_bin 65 (fun x y => x + y) := funext fun _ => rfl
theorem lo_L_lawA_65 (E : kx_E) : kx_look 65 (cd_L_lawA E) = t_fun (f2_L_cell E) 0 0 68 2 := funext fun _ => rfl
theorem lo_L_lawA_68 (E : kx_E) : kx_look 68 (cd_L_lawA E) = t_push 69 (.int 3) := funext fun _ => rfl
theorem lo_L_lawA_69 (E : kx_E) : kx_look 69 (cd_L_lawA E) = t_fun (f2_L_below E) 0 0 72 2 := funext fun _ => rfl
theorem lo_L_lawA_72 (E : kx_E) : kx_look 72 (cd_L_lawA E) = t_push 74 (.int 100) := funext fun _ => rfl
theorem lo_L_lawA_74 (E : kx_E) : kx_look 74 (cd_L_lawA E) = t_al 75 0 := funext fun _ => rfl
theorem lo_L_lawA_75 (E : kx_E) : kx_look 75 (cd_L_lawA E) = t_il 76 2 := funext fun _ => rfl
theorem lo_L_lawA_76 (E : kx_E) : kx_look 76 (cd_L_lawA E) = t_fun (f2_L_cell E) 0 0 79 2 := funext fun _ => rfl
theorem lo_L_lawA_79 (E : kx_E) : kx_look 79 (cd_L_lawA E) = t_push 81 (.int 101) := funext fun _ => rfl
theorem lo_L_lawA_81 (E : kx_E) : kx_look 81 (cd_L_lawA E) = t_fun (f2_L_below E) 0 0 84 2 := funext fun _ => rfl
theorem lo_L_lawA_84 (E : kx_E) : kx_look 84 (cd_L_lawA E) = t_bin 85 (fun x y => x + y) := funext fun _ => rfl
theorem lo_L_lawA_85 (E : kx_E) : kx_look 85 (cd_L_lawA E) = t_call (c2t_X9_plant E) 88 4 11 := funext fun _ => rfl
theorem lo_L_lawA_88 (E : kx_E) : kx_look 88 (cd_L_lawA E) = t_il 89 2 := funext fun _ => rfl
theorem lo_L_lawA_89 (E : kx_E) : kx_look 89 (cd_L_lawA E) = t_ic 92 94 (fun x y => x = y) := funext fun _ => rfl
theorem lo_L_lawA_92 (E : kx_E) : kx_look 92 (cd_L_lawA E) = t_push 93 (.int 0) := funext fun _ => rfl
theorem lo_L_lawA_93 (E : kx_E) : kx_look 93 (cd_L_lawA E) = t_one := funext fun _ => rfl
theorem lo_L_lawA_94 (E : kx_E) : kx_look 94 (cd_L_lawA E) = t_inc 97 2 1 := funext fun _ => rfl
theorem lo_L_lawA_97 (E : kx_E) : kx_look 97 (cd_L_lawA E) = t_gk 51 3 := funext fun _ => rfl
theorem lo_L_lawA_100 (E : kx_E) : kx_look 100 (cd_L_lawA E) = t_push 101 (.int 0) := funext fun _ => rfl
theorem lo_L_lawA_101 (E : kx_E) : kx_look 101 (cd_L_lawA E) = t_is 102 2 := funext fun _ => rfl
theorem lo_L_lawA_102 (E : kx_E) : kx_look 102 (cd_L_lawA E) = t_il 103 2 := funext fun _ => rfl
theorem lo_L_lawA_103 (E : kx_E) : kx_look 103 (cd_L_lawA E) = t_push 105 (.int 9) := funext fun _ => rfl
theorem lo_L_lawA_105 (E : kx_E) : kx_look 105 (cd_L_lawA E) = t_ic 108 190 (fun x y => y ≤ x) := funext fun _ => rfl
theorem lo_L_lawA_108 (E : kx_E) : kx_look 108 (cd_L_lawA E) = t_al 109 0 := funext fun _ => rfl
theorem lo_L_lawA_109 (E : kx_E) : kx_look 109 (cd_L_lawA E) = t_il 110 2 := funext fun _ => rfl
theorem lo_L_lawA_110 (E : kx_E) : kx_look 110 (cd_L_lawA E) = t_push 111 (.int 1) := funext fun _ => rfl
theorem lo_L_lawA_111 (E : kx_E) : kx_look 111 (cd_L_lawA E) = t_bin 112 (fun x y => x + y) := funext fun _ => rfl
theorem lo_L_lawA_112 (E : kx_E) : kx_look 112 (cd_L_lawA E) = t_fun (f2_L_cell E) 0 0 115 2 := funext fun _ => rfl
theorem lo_L_lawA_115 (E : kx_E) : kx_look 115 (cd_L_lawA E) = t_push 116 (.int 3) := funext fun _ => rfl
theorem lo_L_lawA_116 (E : kx_E) : kx_look 116 (cd_L_lawA E) = t_il 117 2 := funext fun _ => rfl
theorem lo_L_lawA_117 (E : kx_E) : kx_look 117 (cd_L_lawA E) = t_bin 118 (fun x y => x * y) := funext fun _ => rfl
theorem lo_L_lawA_118 (E : kx_E) : kx_look 118 (cd_L_lawA E) = t_bin 119 (fun x y => x + y) := funext fun _ => rfl
theorem lo_L_lawA_119 (E : kx_E) : kx_look 119 (cd_L_lawA E) = t_is 120 3 := funext fun _ => rfl
theorem lo_L_lawA_120 (E : kx_E) : kx_look 120 (cd_L_lawA E) = t_al 121 1 := funext fun _ => rfl
theorem lo_L_lawA_121 (E : kx_E) : kx_look 121 (cd_L_lawA E) = t_il 122 2 := funext fun _ => rfl
theorem lo_L_lawA_122 (E : kx_E) : kx_look 122 (cd_L_lawA E) = t_push 123 (.int 3) := funext fun _ => rfl
theorem lo_L_lawA_123 (E : kx_E) : kx_look 123 (cd_L_lawA E) = t_dv 124 (fun x y => x - x / y * y) := funext fun _ => rfl
theorem lo_L_lawA_124 (E : kx_E) : kx_look 124 (cd_L_lawA E) = t_il 125 3 := funext fun _ => rfl
theorem lo_L_lawA_125 (E : kx_E) : kx_look 125 (cd_L_lawA E) = t_push 126 (.int 3) := funext fun _ => rfl
theorem lo_L_lawA_126 (E : kx_E) : kx_look 126 (cd_L_lawA E) = t_fun (f2_L_below E) 0 0 129 2 := funext fun _ => rfl
theorem lo_L_lawA_129 (E : kx_E) : kx_look 129 (cd_L_lawA E) = t_push 130 (.int 1) := funext fun _ => rfl
theorem lo_L_lawA_130 (E : kx_E) : kx_look 130 (cd_L_lawA E) = t_il 131 3 := funext fun _ => rfl
theorem lo_L_lawA_131 (E : kx_E) : kx_look 131 (cd_L_lawA E) = t_push 132 (.int 3) := funext fun _ => rfl
theorem lo_L_lawA_132 (E : kx_E) : kx_look 132 (cd_L_lawA E) = t_bin 133 (fun x y => x >>> (y &&& 31)) := funext fun _ => rfl
theorem lo_L_lawA_133 (E : kx_E) : kx_look 133 (cd_L_lawA E) = t_push 134 (.int 2) := funext fun _ => rfl
theorem lo_L_lawA_134 (E : kx_E) : kx_look 134 (cd_L_lawA E) = t_fun (f2_L_below E) 0 0 137 2 := funext fun _ => rfl
theorem lo_L_lawA_137 (E : kx_E) : kx_look 137 (cd_L_lawA E) = t_bin 138 (fun x y => x + y) := funext fun _ => rfl
theorem lo_L_lawA_138 (E : kx_E) : kx_look 138 (cd_L_lawA E) = t_il 139 3 := funext fun _ => rfl
theorem lo_L_lawA_139 (E : kx_E) : kx_look 139 (cd_L_lawA E) = t_push 140 (.int 2) := funext fun _ => rfl
theorem lo_L_lawA_140 (E : kx_E) : kx_look 140 (cd_L_lawA E) = t_bin 141 (fun x y => x >>> (y &&& 31)) := funext fun _ => rfl
theorem lo_L_lawA_141 (E : kx_E) : kx_look 141 (cd_L_lawA E) = t_push 143 (.int 50) := funext fun _ => rfl
theorem lo_L_lawA_143 (E : kx_E) : kx_look 143 (cd_L_lawA E) = t_fun (f2_L_below E) 0 0 146 2 := funext fun _ => rfl
theorem lo_L_lawA_146 (E : kx_E) : kx_look 146 (cd_L_lawA E) = t_il 147 3 := funext fun _ => rfl
theorem lo_L_lawA_147 (E : kx_E) : kx_look 147 (cd_L_lawA E) = t_push 148 (.int 4) := funext fun _ => rfl
theorem lo_L_lawA_148 (E : kx_E) : kx_look 148 (cd_L_lawA E) = t_bin 149 (fun x y => x >>> (y &&& 31)) := funext fun _ => rfl
theorem lo_L_lawA_149 (E : kx_E) : kx_look 149 (cd_L_lawA E) = t_push 151 (.int 56) := funext fun _ => rfl
theorem lo_L_lawA_151 (E : kx_E) : kx_look 151 (cd_L_lawA E) = t_fun (f2_L_below E) 0 0 154 2 := funext fun _ => rfl
theorem lo_L_lawA_154 (E : kx_E) : kx_look 154 (cd_L_lawA E) = t_push 155 (.int 1) := funext fun _ => rfl
theorem lo_L_lawA_155 (E : kx_E) : kx_look 155 (cd_L_lawA E) = t_il 156 3 := funext fun _ => rfl
theorem lo_L_lawA_156 (E : kx_E) : kx_look 156 (cd_L_lawA E) = t_push 157 (.int 5) := funext fun _ => rfl
theorem lo_L_lawA_157 (E : kx_E) : kx_look 157 (cd_L_lawA E) = t_bin 158 (fun x y => x >>> (y &&& 31)) := funext fun _ => rfl
theorem lo_L_lawA_158 (E : kx_E) : kx_look 158 (cd_L_lawA E) = t_push 160 (.int 99) := funext fun _ => rfl
theorem lo_L_lawA_160 (E : kx_E) : kx_look 160 (cd_L_lawA E) = t_fun (f2_L_below E) 0 0 163 2 := funext fun _ => rfl
theorem lo_L_lawA_163 (E : kx_E) : kx_look 163 (cd_L_lawA E) = t_bin 164 (fun x y => x + y) := funext fun _ => rfl
theorem lo_L_lawA_164 (E : kx_E) : kx_look 164 (cd_L_lawA E) = t_push 165 (.int 1) := funext fun _ => rfl
theorem lo_L_lawA_165 (E : kx_E) : kx_look 165 (cd_L_lawA E) = t_il 166 3 := funext fun _ => rfl
theorem lo_L_lawA_166 (E : kx_E) : kx_look 166 (cd_L_lawA E) = t_push 168 (.int 7) := funext fun _ => rfl
theorem lo_L_lawA_168 (E : kx_E) : kx_look 168 (cd_L_lawA E) = t_bin 169 (fun x y => x >>> (y &&& 31)) := funext fun _ => rfl
theorem lo_L_lawA_169 (E : kx_E) : kx_look 169 (cd_L_lawA E) = t_push 171 (.int 90) := funext fun _ => rfl
theorem lo_L_lawA_171 (E : kx_E) : kx_look 171 (cd_L_lawA E) = t_fun (f2_L_below E) 0 0 174 2 := funext fun _ => rfl
theorem lo_L_lawA_174 (E : kx_E) : kx_look 174 (cd_L_lawA E) = t_bin 175 (fun x y => x + y) := funext fun _ => rfl
theorem lo_L_lawA_175 (E : kx_E) : kx_look 175 (cd_L_lawA E) = t_call (c2t_X9_order E) 178 8 11 := funext fun _ => rfl
theorem lo_L_lawA_178 (E : kx_E) : kx_look 178 (cd_L_lawA E) = t_il 179 2 := funext fun _ => rfl
theorem lo_L_lawA_179 (E : kx_E) : kx_look 179 (cd_L_lawA E) = t_ic 182 184 (fun x y => x = y) := funext fun _ => rfl
theorem lo_L_lawA_182 (E : kx_E) : kx_look 182 (cd_L_lawA E) = t_push 183 (.int 0) := funext fun _ => rfl
theorem lo_L_lawA_183 (E : kx_E) : kx_look 183 (cd_L_lawA E) = t_one := funext fun _ => rfl
theorem lo_L_lawA_184 (E : kx_E) : kx_look 184 (cd_L_lawA E) = t_inc 187 2 1 := funext fun _ => rfl
theorem lo_L_lawA_187 (E : kx_E) : kx_look 187 (cd_L_lawA E) = t_gk 102 3 := funext fun _ => rfl
theorem lo_L_lawB_190 (E : kx_E) : kx_look 190 (cd_L_lawB E) = t_push 191 (.int 0) := funext fun _ => rfl
theorem lo_L_lawB_191 (E : kx_E) : kx_look 191 (cd_L_lawB E) = t_is 192 2 := funext fun _ => rfl
theorem lo_L_lawB_192 (E : kx_E) : kx_look 192 (cd_L_lawB E) = t_push 193 (.int 0) := funext fun _ => rfl
theorem lo_L_lawB_193 (E : kx_E) : kx_look 193 (cd_L_lawB E) = t_is 194 3 := funext fun _ => rfl
theorem lo_L_lawB_194 (E : kx_E) : kx_look 194 (cd_L_lawB E) = t_push 195 (.int 0) := funext fun _ => rfl
theorem lo_L_lawB_195 (E : kx_E) : kx_look 195 (cd_L_lawB E) = t_is 197 4 := funext fun _ => rfl
theorem lo_L_lawB_197 (E : kx_E) : kx_look 197 (cd_L_lawB E) = t_push 198 (.int 0) := funext fun _ => rfl
theorem lo_L_lawB_198 (E : kx_E) : kx_look 198 (cd_L_lawB E) = t_is 200 5 := funext fun _ => rfl
theorem lo_L_lawB_200 (E : kx_E) : kx_look 200 (cd_L_lawB E) = t_il 202 5 := funext fun _ => rfl
theorem lo_L_lawB_202 (E : kx_E) : kx_look 202 (cd_L_lawB E) = t_push 204 (.int 44) := funext fun _ => rfl
theorem lo_L_lawB_204 (E : kx_E) : kx_look 204 (cd_L_lawB E) = t_ic 207 1086 (fun x y => y ≤ x) := funext fun _ => rfl
theorem lo_L_lawB_207 (E : kx_E) : kx_look 207 (cd_L_lawB E) = t_al 208 0 := funext fun _ => rfl
theorem lo_L_lawB_208 (E : kx_E) : kx_look 208 (cd_L_lawB E) = t_il 210 5 := funext fun _ => rfl
theorem lo_L_lawB_210 (E : kx_E) : kx_look 210 (cd_L_lawB E) = t_push 212 (.int 16) := funext fun _ => rfl
theorem lo_L_lawB_212 (E : kx_E) : kx_look 212 (cd_L_lawB E) = t_dv 213 (fun x y => x - x / y * y) := funext fun _ => rfl
theorem lo_L_lawB_213 (E : kx_E) : kx_look 213 (cd_L_lawB E) = t_fun (f2_L_cell E) 0 0 216 2 := funext fun _ => rfl
theorem lo_L_lawB_216 (E : kx_E) : kx_look 216 (cd_L_lawB E) = t_push 218 (.int 37) := funext fun _ => rfl
theorem lo_L_lawB_218 (E : kx_E) : kx_look 218 (cd_L_lawB E) = t_il 220 5 := funext fun _ => rfl
theorem lo_L_lawB_220 (E : kx_E) : kx_look 220 (cd_L_lawB E) = t_bin 221 (fun x y => x * y) := funext fun _ => rfl
theorem lo_L_lawB_221 (E : kx_E) : kx_look 221 (cd_L_lawB E) = t_bin 222 (fun x y => x + y) := funext fun _ => rfl
theorem lo_L_lawB_222 (E : kx_E) : kx_look 222 (cd_L_lawB E) = t_is 224 6 := funext fun _ => rfl
theorem lo_L_lawB_224 (E : kx_E) : kx_look 224 (cd_L_lawB E) = t_al 225 0 := funext fun _ => rfl
theorem lo_L_lawB_225 (E : kx_E) : kx_look 225 (cd_L_lawB E) = t_push 226 (.int 3) := funext fun _ => rfl
theorem lo_L_lawB_226 (E : kx_E) : kx_look 226 (cd_L_lawB E) = t_il 228 5 := funext fun _ => rfl
theorem lo_L_lawB_228 (E : kx_E) : kx_look 228 (cd_L_lawB E) = t_bin 229 (fun x y => x * y) := funext fun _ => rfl
theorem lo_L_lawB_229 (E : kx_E) : kx_look 229 (cd_L_lawB E) = t_push 230 (.int 5) := funext fun _ => rfl
theorem lo_L_lawB_230 (E : kx_E) : kx_look 230 (cd_L_lawB E) = t_bin 231 (fun x y => x + y) := funext fun _ => rfl
theorem lo_L_lawB_231 (E : kx_E) : kx_look 231 (cd_L_lawB E) = t_push 233 (.int 16) := funext fun _ => rfl
theorem lo_L_lawB_233 (E : kx_E) : kx_look 233 (cd_L_lawB E) = t_dv 234 (fun x y => x - x / y * y) := funext fun _ => rfl
theorem lo_L_lawB_234 (E : kx_E) : kx_look 234 (cd_L_lawB E) = t_fun (f2_L_cell E) 0 0 237 2 := funext fun _ => rfl
theorem lo_L_lawB_237 (E : kx_E) : kx_look 237 (cd_L_lawB E) = t_push 239 (.int 11) := funext fun _ => rfl
theorem lo_L_lawB_239 (E : kx_E) : kx_look 239 (cd_L_lawB E) = t_il 241 5 := funext fun _ => rfl
theorem lo_L_lawB_241 (E : kx_E) : kx_look 241 (cd_L_lawB E) = t_bin 242 (fun x y => x * y) := funext fun _ => rfl
theorem lo_L_lawB_242 (E : kx_E) : kx_look 242 (cd_L_lawB E) = t_bin 243 (fun x y => x + y) := funext fun _ => rfl
theorem lo_L_lawB_243 (E : kx_E) : kx_look 243 (cd_L_lawB E) = t_is 245 7 := funext fun _ => rfl
theorem lo_L_lawB_245 (E : kx_E) : kx_look 245 (cd_L_lawB E) = t_il 247 7 := funext fun _ => rfl
theorem lo_L_lawB_247 (E : kx_E) : kx_look 247 (cd_L_lawB E) = t_push 248 (.int 3) := funext fun _ => rfl
theorem lo_L_lawB_248 (E : kx_E) : kx_look 248 (cd_L_lawB E) = t_fun (f2_L_below E) 0 0 251 2 := funext fun _ => rfl
theorem lo_L_lawB_251 (E : kx_E) : kx_look 251 (cd_L_lawB E) = t_is 253 8 := funext fun _ => rfl
theorem lo_L_lawB_253 (E : kx_E) : kx_look 253 (cd_L_lawB E) = t_al 254 1 := funext fun _ => rfl
theorem lo_L_lawB_254 (E : kx_E) : kx_look 254 (cd_L_lawB E) = t_push 255 (.int 3) := funext fun _ => rfl
theorem lo_L_lawB_255 (E : kx_E) : kx_look 255 (cd_L_lawB E) = t_fun (f2_X9_many E) 0 0 258 2 := funext fun _ => rfl
theorem lo_L_lawB_258 (E : kx_E) : kx_look 258 (cd_L_lawB E) = t_if 261 265 (fun x => x ≠ 0) := funext fun _ => rfl
theorem lo_L_lawB_261 (E : kx_E) : kx_look 261 (cd_L_lawB E) = t_push 262 (.int (-1)) := funext fun _ => rfl
theorem lo_L_lawB_262 (E : kx_E) : kx_look 262 (cd_L_lawB E) = t_go 277 := funext fun _ => rfl
theorem lo_L_lawB_265 (E : kx_E) : kx_look 265 (cd_L_lawB E) = t_il 267 7 := funext fun _ => rfl
theorem lo_L_lawB_267 (E : kx_E) : kx_look 267 (cd_L_lawB E) = t_push 268 (.int 2) := funext fun _ => rfl
theorem lo_L_lawB_268 (E : kx_E) : kx_look 268 (cd_L_lawB E) = t_bin 269 (fun x y => x >>> (y &&& 31)) := funext fun _ => rfl
theorem lo_L_lawB_269 (E : kx_E) : kx_look 269 (cd_L_lawB E) = t_al 270 1 := funext fun _ => rfl
theorem lo_L_lawB_270 (E : kx_E) : kx_look 270 (cd_L_lawB E) = t_push 271 (.int 3) := funext fun _ => rfl
theorem lo_L_lawB_271 (E : kx_E) : kx_look 271 (cd_L_lawB E) = t_fun (f2_X9_many E) 0 0 274 2 := funext fun _ => rfl
theorem lo_L_lawB_274 (E : kx_E) : kx_look 274 (cd_L_lawB E) = t_fun (f2_L_below E) 0 0 277 2 := funext fun _ => rfl
theorem lo_L_lawB_277 (E : kx_E) : kx_look 277 (cd_L_lawB E) = t_is 279 9 := funext fun _ => rfl
theorem lo_L_lawB_279 (E : kx_E) : kx_look 279 (cd_L_lawB E) = t_il 281 9 := funext fun _ => rfl
theorem lo_L_lawB_281 (E : kx_E) : kx_look 281 (cd_L_lawB E) = t_if 284 288 (fun x => 0 ≤ x) := funext fun _ => rfl
theorem lo_L_lawB_284 (E : kx_E) : kx_look 284 (cd_L_lawB E) = t_push 285 (.int (-1)) := funext fun _ => rfl
theorem lo_L_lawB_285 (E : kx_E) : kx_look 285 (cd_L_lawB E) = t_go 296 := funext fun _ => rfl
theorem lo_L_lawB_288 (E : kx_E) : kx_look 288 (cd_L_lawB E) = t_al 289 1 := funext fun _ => rfl
theorem lo_L_lawB_289 (E : kx_E) : kx_look 289 (cd_L_lawB E) = t_il 291 9 := funext fun _ => rfl
theorem lo_L_lawB_291 (E : kx_E) : kx_look 291 (cd_L_lawB E) = t_push 293 (.int 7) := funext fun _ => rfl
theorem lo_L_lawB_293 (E : kx_E) : kx_look 293 (cd_L_lawB E) = t_fun (f2_X9_ofLot E) 0 0 296 3 := funext fun _ => rfl
theorem lo_L_lawB_296 (E : kx_E) : kx_look 296 (cd_L_lawB E) = t_is 298 10 := funext fun _ => rfl
theorem lo_L_lawB_298 (E : kx_E) : kx_look 298 (cd_L_lawB E) = t_il 300 6 := funext fun _ => rfl
theorem lo_L_lawB_300 (E : kx_E) : kx_look 300 (cd_L_lawB E) = t_push 302 (.int 16) := funext fun _ => rfl
theorem lo_L_lawB_302 (E : kx_E) : kx_look 302 (cd_L_lawB E) = t_fun (f2_L_below E) 0 0 305 2 := funext fun _ => rfl
theorem lo_L_lawB_305 (E : kx_E) : kx_look 305 (cd_L_lawB E) = t_sw [(0, 376), (1, 400), (2, 400), (3, 400), (4, 514), (5, 514), (6, 582), (7, 599), (8, 662), (9, 662), (10, 680), (11, 771), (12, 831), (13, 963)] 1007 := funext fun _ => rfl
theorem lo_L_lawC_376 (E : kx_E) : kx_look 376 (cd_L_lawC E) = t_al 377 1 := funext fun _ => rfl
theorem lo_L_lawC_377 (E : kx_E) : kx_look 377 (cd_L_lawC E) = t_il 379 7 := funext fun _ => rfl
theorem lo_L_lawC_379 (E : kx_E) : kx_look 379 (cd_L_lawC E) = t_push 380 (.int 3) := funext fun _ => rfl
theorem lo_L_lawC_380 (E : kx_E) : kx_look 380 (cd_L_lawC E) = t_fun (f2_L_below E) 0 0 383 2 := funext fun _ => rfl
theorem lo_L_lawC_383 (E : kx_E) : kx_look 383 (cd_L_lawC E) = t_il 385 6 := funext fun _ => rfl
theorem lo_L_lawC_385 (E : kx_E) : kx_look 385 (cd_L_lawC E) = t_push 386 (.int 4) := funext fun _ => rfl
theorem lo_L_lawC_386 (E : kx_E) : kx_look 386 (cd_L_lawC E) = t_bin 387 (fun x y => x >>> (y &&& 31)) := funext fun _ => rfl
theorem lo_L_lawC_387 (E : kx_E) : kx_look 387 (cd_L_lawC E) = t_push 388 (.int 4) := funext fun _ => rfl
theorem lo_L_lawC_388 (E : kx_E) : kx_look 388 (cd_L_lawC E) = t_fun (f2_L_below E) 0 0 391 2 := funext fun _ => rfl
theorem lo_L_lawC_391 (E : kx_E) : kx_look 391 (cd_L_lawC E) = t_fun (f2_X9_lamps E) 0 0 394 3 := funext fun _ => rfl
theorem lo_L_lawC_394 (E : kx_E) : kx_look 394 (cd_L_lawC E) = t_push 395 (.int 3) := funext fun _ => rfl
theorem lo_L_lawC_395 (E : kx_E) : kx_look 395 (cd_L_lawC E) = t_ic 398 1067 (fun x y => x ≤ y) := funext fun _ => rfl
theorem lo_L_lawC_398 (E : kx_E) : kx_look 398 (cd_L_lawC E) = t_push 399 (.int 0) := funext fun _ => rfl
theorem lo_L_lawC_399 (E : kx_E) : kx_look 399 (cd_L_lawC E) = t_one := funext fun _ => rfl
theorem lo_L_lawC_400 (E : kx_E) : kx_look 400 (cd_L_lawC E) = t_il 402 6 := funext fun _ => rfl
theorem lo_L_lawC_402 (E : kx_E) : kx_look 402 (cd_L_lawC E) = t_push 403 (.int 4) := funext fun _ => rfl
theorem lo_L_lawC_403 (E : kx_E) : kx_look 403 (cd_L_lawC E) = t_bin 404 (fun x y => x >>> (y &&& 31)) := funext fun _ => rfl
theorem lo_L_lawC_404 (E : kx_E) : kx_look 404 (cd_L_lawC E) = t_push 406 (.int 6) := funext fun _ => rfl
theorem lo_L_lawC_406 (E : kx_E) : kx_look 406 (cd_L_lawC E) = t_fun (f2_L_below E) 0 0 409 2 := funext fun _ => rfl
theorem lo_L_lawC_409 (E : kx_E) : kx_look 409 (cd_L_lawC E) = t_is 411 11 := funext fun _ => rfl
theorem lo_L_lawC_411 (E : kx_E) : kx_look 411 (cd_L_lawC E) = t_push 412 (.int 1) := funext fun _ => rfl
theorem lo_L_lawC_412 (E : kx_E) : kx_look 412 (cd_L_lawC E) = t_il 414 7 := funext fun _ => rfl
theorem lo_L_lawC_414 (E : kx_E) : kx_look 414 (cd_L_lawC E) = t_push 415 (.int 3) := funext fun _ => rfl
theorem lo_L_lawC_415 (E : kx_E) : kx_look 415 (cd_L_lawC E) = t_bin 416 (fun x y => x >>> (y &&& 31)) := funext fun _ => rfl
theorem lo_L_lawC_416 (E : kx_E) : kx_look 416 (cd_L_lawC E) = t_push 418 (.int 60) := funext fun _ => rfl
theorem lo_L_lawC_418 (E : kx_E) : kx_look 418 (cd_L_lawC E) = t_fun (f2_L_below E) 0 0 421 2 := funext fun _ => rfl
theorem lo_L_lawC_421 (E : kx_E) : kx_look 421 (cd_L_lawC E) = t_bin 422 (fun x y => x + y) := funext fun _ => rfl
theorem lo_L_lawC_422 (E : kx_E) : kx_look 422 (cd_L_lawC E) = t_is 424 12 := funext fun _ => rfl
theorem lo_L_lawC_424 (E : kx_E) : kx_look 424 (cd_L_lawC E) = t_al 425 1 := funext fun _ => rfl
theorem lo_L_lawC_425 (E : kx_E) : kx_look 425 (cd_L_lawC E) = t_push 426 (.int 3) := funext fun _ => rfl
theorem lo_L_lawC_426 (E : kx_E) : kx_look 426 (cd_L_lawC E) = t_fun (f2_X9_many E) 0 0 429 2 := funext fun _ => rfl
theorem lo_L_lawC_429 (E : kx_E) : kx_look 429 (cd_L_lawC E) = t_push 431 (.int 16) := funext fun _ => rfl
theorem lo_L_lawC_431 (E : kx_E) : kx_look 431 (cd_L_lawC E) = t_ic 434 1067 (fun x y => x = y) := funext fun _ => rfl
theorem lo_L_lawC_434 (E : kx_E) : kx_look 434 (cd_L_lawC E) = t_al 435 1 := funext fun _ => rfl
theorem lo_L_lawC_435 (E : kx_E) : kx_look 435 (cd_L_lawC E) = t_il 437 11 := funext fun _ => rfl
theorem lo_L_lawC_437 (E : kx_E) : kx_look 437 (cd_L_lawC E) = t_push 438 (.int 4) := funext fun _ => rfl
theorem lo_L_lawC_438 (E : kx_E) : kx_look 438 (cd_L_lawC E) = t_fun (f2_X9_ofCrop E) 0 0 441 3 := funext fun _ => rfl
theorem lo_L_lawC_441 (E : kx_E) : kx_look 441 (cd_L_lawC E) = t_if 444 1067 (fun x => x = 0) := funext fun _ => rfl
theorem lo_L_lawC_444 (E : kx_E) : kx_look 444 (cd_L_lawC E) = t_al 445 1 := funext fun _ => rfl
theorem lo_L_lawC_445 (E : kx_E) : kx_look 445 (cd_L_lawC E) = t_il 447 11 := funext fun _ => rfl
theorem lo_L_lawC_447 (E : kx_E) : kx_look 447 (cd_L_lawC E) = t_push 448 (.int 2) := funext fun _ => rfl
theorem lo_L_lawC_448 (E : kx_E) : kx_look 448 (cd_L_lawC E) = t_fun (f2_X9_ofCrop E) 0 0 451 3 := funext fun _ => rfl
theorem lo_L_lawC_451 (E : kx_E) : kx_look 451 (cd_L_lawC E) = t_il 453 12 := funext fun _ => rfl
theorem lo_L_lawC_453 (E : kx_E) : kx_look 453 (cd_L_lawC E) = t_ic 456 1067 (fun x y => x < y) := funext fun _ => rfl
theorem lo_L_lawC_456 (E : kx_E) : kx_look 456 (cd_L_lawC E) = t_al 457 1 := funext fun _ => rfl
theorem lo_L_lawC_457 (E : kx_E) : kx_look 457 (cd_L_lawC E) = t_push 459 (.int 8) := funext fun _ => rfl
theorem lo_L_lawC_459 (E : kx_E) : kx_look 459 (cd_L_lawC E) = t_fun (f2_X9_many E) 0 0 462 2 := funext fun _ => rfl
theorem lo_L_lawC_462 (E : kx_E) : kx_look 462 (cd_L_lawC E) = t_push 463 (.int 3) := funext fun _ => rfl
theorem lo_L_lawC_463 (E : kx_E) : kx_look 463 (cd_L_lawC E) = t_ic 466 469 (fun x y => y ≤ x) := funext fun _ => rfl
theorem lo_L_lawC_466 (E : kx_E) : kx_look 466 (cd_L_lawC E) = t_go 1067 := funext fun _ => rfl
theorem lo_L_lawC_469 (E : kx_E) : kx_look 469 (cd_L_lawC E) = t_al 470 1 := funext fun _ => rfl
theorem lo_L_lawC_470 (E : kx_E) : kx_look 470 (cd_L_lawC E) = t_il 472 11 := funext fun _ => rfl
theorem lo_L_lawC_472 (E : kx_E) : kx_look 472 (cd_L_lawC E) = t_il 474 12 := funext fun _ => rfl
theorem lo_L_lawC_474 (E : kx_E) : kx_look 474 (cd_L_lawC E) = t_call (c2t_X9_cut E) 477 3 11 := funext fun _ => rfl
theorem lo_L_lawC_477 (E : kx_E) : kx_look 477 (cd_L_lawC E) = t_al 478 1 := funext fun _ => rfl
theorem lo_L_lawC_478 (E : kx_E) : kx_look 478 (cd_L_lawC E) = t_push 479 (.int 3) := funext fun _ => rfl
theorem lo_L_lawC_479 (E : kx_E) : kx_look 479 (cd_L_lawC E) = t_fun (f2_X9_many E) 0 0 482 2 := funext fun _ => rfl
theorem lo_L_lawC_482 (E : kx_E) : kx_look 482 (cd_L_lawC E) = t_push 483 (.int 1) := funext fun _ => rfl
theorem lo_L_lawC_483 (E : kx_E) : kx_look 483 (cd_L_lawC E) = t_bin 484 (fun x y => x - y) := funext fun _ => rfl
theorem lo_L_lawC_484 (E : kx_E) : kx_look 484 (cd_L_lawC E) = t_ic 487 504 (fun x y => x ≠ y) := funext fun _ => rfl
theorem lo_L_lawC_487 (E : kx_E) : kx_look 487 (cd_L_lawC E) = t_al 488 1 := funext fun _ => rfl
theorem lo_L_lawC_488 (E : kx_E) : kx_look 488 (cd_L_lawC E) = t_al 489 1 := funext fun _ => rfl
theorem lo_L_lawC_489 (E : kx_E) : kx_look 489 (cd_L_lawC E) = t_push 490 (.int 3) := funext fun _ => rfl
theorem lo_L_lawC_490 (E : kx_E) : kx_look 490 (cd_L_lawC E) = t_fun (f2_X9_many E) 0 0 493 2 := funext fun _ => rfl
theorem lo_L_lawC_493 (E : kx_E) : kx_look 493 (cd_L_lawC E) = t_push 494 (.int 1) := funext fun _ => rfl
theorem lo_L_lawC_494 (E : kx_E) : kx_look 494 (cd_L_lawC E) = t_bin 495 (fun x y => x - y) := funext fun _ => rfl
theorem lo_L_lawC_495 (E : kx_E) : kx_look 495 (cd_L_lawC E) = t_push 496 (.int 2) := funext fun _ => rfl
theorem lo_L_lawC_496 (E : kx_E) : kx_look 496 (cd_L_lawC E) = t_fun (f2_X9_ofLot E) 0 0 499 3 := funext fun _ => rfl
theorem lo_L_lawC_499 (E : kx_E) : kx_look 499 (cd_L_lawC E) = t_il 501 12 := funext fun _ => rfl
theorem lo_L_lawC_501 (E : kx_E) : kx_look 501 (cd_L_lawC E) = t_ic 504 506 (fun x y => x = y) := funext fun _ => rfl
theorem lo_L_lawC_504 (E : kx_E) : kx_look 504 (cd_L_lawC E) = t_push 505 (.int 0) := funext fun _ => rfl
theorem lo_L_lawC_505 (E : kx_E) : kx_look 505 (cd_L_lawC E) = t_one := funext fun _ => rfl
theorem lo_L_lawC_506 (E : kx_E) : kx_look 506 (cd_L_lawC E) = t_il 507 2 := funext fun _ => rfl
theorem lo_L_lawC_507 (E : kx_E) : kx_look 507 (cd_L_lawC E) = t_il 509 12 := funext fun _ => rfl
theorem lo_L_lawC_509 (E : kx_E) : kx_look 509 (cd_L_lawC E) = t_bin 510 (fun x y => x + y) := funext fun _ => rfl
theorem lo_L_lawC_510 (E : kx_E) : kx_look 510 (cd_L_lawC E) = t_is 511 2 := funext fun _ => rfl
theorem lo_L_lawC_511 (E : kx_E) : kx_look 511 (cd_L_lawC E) = t_go 1067 := funext fun _ => rfl
theorem lo_L_lawD_514 (E : kx_E) : kx_look 514 (cd_L_lawD E) = t_il 516 10 := funext fun _ => rfl
theorem lo_L_lawD_516 (E : kx_E) : kx_look 516 (cd_L_lawD E) = t_if 519 1067 (fun x => x ≠ 0) := funext fun _ => rfl
theorem lo_L_lawD_519 (E : kx_E) : kx_look 519 (cd_L_lawD E) = t_al 520 1 := funext fun _ => rfl
theorem lo_L_lawD_520 (E : kx_E) : kx_look 520 (cd_L_lawD E) = t_al 521 1 := funext fun _ => rfl
theorem lo_L_lawD_521 (E : kx_E) : kx_look 521 (cd_L_lawD E) = t_il 523 9 := funext fun _ => rfl
theorem lo_L_lawD_523 (E : kx_E) : kx_look 523 (cd_L_lawD E) = t_push 524 (.int 0) := funext fun _ => rfl
theorem lo_L_lawD_524 (E : kx_E) : kx_look 524 (cd_L_lawD E) = t_fun (f2_X9_ofLot E) 0 0 527 3 := funext fun _ => rfl
theorem lo_L_lawD_527 (E : kx_E) : kx_look 527 (cd_L_lawD E) = t_push 528 (.int 4) := funext fun _ => rfl
theorem lo_L_lawD_528 (E : kx_E) : kx_look 528 (cd_L_lawD E) = t_fun (f2_X9_ofGrower E) 0 0 531 3 := funext fun _ => rfl
theorem lo_L_lawD_531 (E : kx_E) : kx_look 531 (cd_L_lawD E) = t_al 532 1 := funext fun _ => rfl
theorem lo_L_lawD_532 (E : kx_E) : kx_look 532 (cd_L_lawD E) = t_il 534 9 := funext fun _ => rfl
theorem lo_L_lawD_534 (E : kx_E) : kx_look 534 (cd_L_lawD E) = t_push 535 (.int 2) := funext fun _ => rfl
theorem lo_L_lawD_535 (E : kx_E) : kx_look 535 (cd_L_lawD E) = t_fun (f2_X9_ofLot E) 0 0 538 3 := funext fun _ => rfl
theorem lo_L_lawD_538 (E : kx_E) : kx_look 538 (cd_L_lawD E) = t_bin 539 (fun x y => x + y) := funext fun _ => rfl
theorem lo_L_lawD_539 (E : kx_E) : kx_look 539 (cd_L_lawD E) = t_push 542 (.int 500) := funext fun _ => rfl
theorem lo_L_lawD_542 (E : kx_E) : kx_look 542 (cd_L_lawD E) = t_ic 545 1067 (fun x y => y < x) := funext fun _ => rfl
theorem lo_L_lawD_545 (E : kx_E) : kx_look 545 (cd_L_lawD E) = t_al 546 1 := funext fun _ => rfl
theorem lo_L_lawD_546 (E : kx_E) : kx_look 546 (cd_L_lawD E) = t_il 548 9 := funext fun _ => rfl
theorem lo_L_lawD_548 (E : kx_E) : kx_look 548 (cd_L_lawD E) = t_il 550 6 := funext fun _ => rfl
theorem lo_L_lawD_550 (E : kx_E) : kx_look 550 (cd_L_lawD E) = t_push 551 (.int 4) := funext fun _ => rfl
theorem lo_L_lawD_551 (E : kx_E) : kx_look 551 (cd_L_lawD E) = t_bin 552 (fun x y => x >>> (y &&& 31)) := funext fun _ => rfl
theorem lo_L_lawD_552 (E : kx_E) : kx_look 552 (cd_L_lawD E) = t_push 554 (.int 111) := funext fun _ => rfl
theorem lo_L_lawD_554 (E : kx_E) : kx_look 554 (cd_L_lawD E) = t_fun (f2_L_below E) 0 0 557 2 := funext fun _ => rfl
theorem lo_L_lawD_557 (E : kx_E) : kx_look 557 (cd_L_lawD E) = t_push 558 (.int 1) := funext fun _ => rfl
theorem lo_L_lawD_558 (E : kx_E) : kx_look 558 (cd_L_lawD E) = t_il 560 7 := funext fun _ => rfl
theorem lo_L_lawD_560 (E : kx_E) : kx_look 560 (cd_L_lawD E) = t_push 561 (.int 4) := funext fun _ => rfl
theorem lo_L_lawD_561 (E : kx_E) : kx_look 561 (cd_L_lawD E) = t_bin 562 (fun x y => x >>> (y &&& 31)) := funext fun _ => rfl
theorem lo_L_lawD_562 (E : kx_E) : kx_look 562 (cd_L_lawD E) = t_push 564 (.int 30) := funext fun _ => rfl
theorem lo_L_lawD_564 (E : kx_E) : kx_look 564 (cd_L_lawD E) = t_fun (f2_L_below E) 0 0 567 2 := funext fun _ => rfl
theorem lo_L_lawD_567 (E : kx_E) : kx_look 567 (cd_L_lawD E) = t_bin 568 (fun x y => x + y) := funext fun _ => rfl
theorem lo_L_lawD_568 (E : kx_E) : kx_look 568 (cd_L_lawD E) = t_call (c2t_X9_bring E) 571 4 11 := funext fun _ => rfl
theorem lo_L_lawD_571 (E : kx_E) : kx_look 571 (cd_L_lawD E) = t_al 572 1 := funext fun _ => rfl
theorem lo_L_lawD_572 (E : kx_E) : kx_look 572 (cd_L_lawD E) = t_push 574 (.int 6) := funext fun _ => rfl
theorem lo_L_lawD_574 (E : kx_E) : kx_look 574 (cd_L_lawD E) = t_fun (f2_X9_many E) 0 0 577 2 := funext fun _ => rfl
theorem lo_L_lawD_577 (E : kx_E) : kx_look 577 (cd_L_lawD E) = t_ic 580 1067 (fun x y => x = y) := funext fun _ => rfl
theorem lo_L_lawD_580 (E : kx_E) : kx_look 580 (cd_L_lawD E) = t_push 581 (.int 0) := funext fun _ => rfl
theorem lo_L_lawD_581 (E : kx_E) : kx_look 581 (cd_L_lawD E) = t_one := funext fun _ => rfl
theorem lo_L_lawD_582 (E : kx_E) : kx_look 582 (cd_L_lawD E) = t_il 584 10 := funext fun _ => rfl
theorem lo_L_lawD_584 (E : kx_E) : kx_look 584 (cd_L_lawD E) = t_push 585 (.int 1) := funext fun _ => rfl
theorem lo_L_lawD_585 (E : kx_E) : kx_look 585 (cd_L_lawD E) = t_ic 588 1067 (fun x y => x ≠ y) := funext fun _ => rfl
theorem lo_L_lawD_588 (E : kx_E) : kx_look 588 (cd_L_lawD E) = t_al 589 1 := funext fun _ => rfl
theorem lo_L_lawD_589 (E : kx_E) : kx_look 589 (cd_L_lawD E) = t_il 591 9 := funext fun _ => rfl
theorem lo_L_lawD_591 (E : kx_E) : kx_look 591 (cd_L_lawD E) = t_call (c2t_L_isInspected E) 594 2 0 := funext fun _ => rfl
theorem lo_L_lawD_594 (E : kx_E) : kx_look 594 (cd_L_lawD E) = t_if 597 1067 (fun x => x ≠ 0) := funext fun _ => rfl
theorem lo_L_lawD_597 (E : kx_E) : kx_look 597 (cd_L_lawD E) = t_push 598 (.int 0) := funext fun _ => rfl
theorem lo_L_lawD_598 (E : kx_E) : kx_look 598 (cd_L_lawD E) = t_one := funext fun _ => rfl
theorem lo_L_lawD_599 (E : kx_E) : kx_look 599 (cd_L_lawD E) = t_il 601 10 := funext fun _ => rfl
theorem lo_L_lawD_601 (E : kx_E) : kx_look 601 (cd_L_lawD E) = t_if 604 1067 (fun x => x ≠ 0) := funext fun _ => rfl
theorem lo_L_lawD_604 (E : kx_E) : kx_look 604 (cd_L_lawD E) = t_al 605 1 := funext fun _ => rfl
theorem lo_L_lawD_605 (E : kx_E) : kx_look 605 (cd_L_lawD E) = t_il 607 9 := funext fun _ => rfl
theorem lo_L_lawD_607 (E : kx_E) : kx_look 607 (cd_L_lawD E) = t_push 608 (.int 2) := funext fun _ => rfl
theorem lo_L_lawD_608 (E : kx_E) : kx_look 608 (cd_L_lawD E) = t_fun (f2_X9_ofLot E) 0 0 611 3 := funext fun _ => rfl
theorem lo_L_lawD_611 (E : kx_E) : kx_look 611 (cd_L_lawD E) = t_if 614 1067 (fun x => x ≤ 0) := funext fun _ => rfl
theorem lo_L_lawD_614 (E : kx_E) : kx_look 614 (cd_L_lawD E) = t_al 615 1 := funext fun _ => rfl
theorem lo_L_lawD_615 (E : kx_E) : kx_look 615 (cd_L_lawD E) = t_al 616 1 := funext fun _ => rfl
theorem lo_L_lawD_616 (E : kx_E) : kx_look 616 (cd_L_lawD E) = t_il 618 9 := funext fun _ => rfl
theorem lo_L_lawD_618 (E : kx_E) : kx_look 618 (cd_L_lawD E) = t_push 619 (.int 0) := funext fun _ => rfl
theorem lo_L_lawD_619 (E : kx_E) : kx_look 619 (cd_L_lawD E) = t_fun (f2_X9_ofLot E) 0 0 622 3 := funext fun _ => rfl
theorem lo_L_lawD_622 (E : kx_E) : kx_look 622 (cd_L_lawD E) = t_push 623 (.int 4) := funext fun _ => rfl
theorem lo_L_lawD_623 (E : kx_E) : kx_look 623 (cd_L_lawD E) = t_fun (f2_X9_ofGrower E) 0 0 626 3 := funext fun _ => rfl
theorem lo_L_lawD_626 (E : kx_E) : kx_look 626 (cd_L_lawD E) = t_push 627 (.int 2) := funext fun _ => rfl
theorem lo_L_lawD_627 (E : kx_E) : kx_look 627 (cd_L_lawD E) = t_al 628 1 := funext fun _ => rfl
theorem lo_L_lawD_628 (E : kx_E) : kx_look 628 (cd_L_lawD E) = t_il 630 9 := funext fun _ => rfl
theorem lo_L_lawD_630 (E : kx_E) : kx_look 630 (cd_L_lawD E) = t_push 631 (.int 2) := funext fun _ => rfl
theorem lo_L_lawD_631 (E : kx_E) : kx_look 631 (cd_L_lawD E) = t_fun (f2_X9_ofLot E) 0 0 634 3 := funext fun _ => rfl
theorem lo_L_lawD_634 (E : kx_E) : kx_look 634 (cd_L_lawD E) = t_bin 635 (fun x y => x * y) := funext fun _ => rfl
theorem lo_L_lawD_635 (E : kx_E) : kx_look 635 (cd_L_lawD E) = t_bin 636 (fun x y => x + y) := funext fun _ => rfl
theorem lo_L_lawD_636 (E : kx_E) : kx_look 636 (cd_L_lawD E) = t_push 639 (.int 500) := funext fun _ => rfl
theorem lo_L_lawD_639 (E : kx_E) : kx_look 639 (cd_L_lawD E) = t_ic 642 1067 (fun x y => y < x) := funext fun _ => rfl
theorem lo_L_lawD_642 (E : kx_E) : kx_look 642 (cd_L_lawD E) = t_al 643 1 := funext fun _ => rfl
theorem lo_L_lawD_643 (E : kx_E) : kx_look 643 (cd_L_lawD E) = t_push 645 (.int 6) := funext fun _ => rfl
theorem lo_L_lawD_645 (E : kx_E) : kx_look 645 (cd_L_lawD E) = t_fun (f2_X9_many E) 0 0 648 2 := funext fun _ => rfl
theorem lo_L_lawD_648 (E : kx_E) : kx_look 648 (cd_L_lawD E) = t_if 651 1067 (fun x => x ≠ 0) := funext fun _ => rfl
theorem lo_L_lawD_651 (E : kx_E) : kx_look 651 (cd_L_lawD E) = t_al 652 1 := funext fun _ => rfl
theorem lo_L_lawD_652 (E : kx_E) : kx_look 652 (cd_L_lawD E) = t_il 654 9 := funext fun _ => rfl
theorem lo_L_lawD_654 (E : kx_E) : kx_look 654 (cd_L_lawD E) = t_call (c2t_L_isBest E) 657 2 0 := funext fun _ => rfl
theorem lo_L_lawD_657 (E : kx_E) : kx_look 657 (cd_L_lawD E) = t_if 660 1067 (fun x => x ≠ 0) := funext fun _ => rfl
theorem lo_L_lawD_660 (E : kx_E) : kx_look 660 (cd_L_lawD E) = t_push 661 (.int 0) := funext fun _ => rfl
theorem lo_L_lawD_661 (E : kx_E) : kx_look 661 (cd_L_lawD E) = t_one := funext fun _ => rfl
theorem lo_L_lawF_662 (E : kx_E) : kx_look 662 (cd_L_lawF E) = t_al 663 1 := funext fun _ => rfl
theorem lo_L_lawF_663 (E : kx_E) : kx_look 663 (cd_L_lawF E) = t_push 665 (.int 6) := funext fun _ => rfl
theorem lo_L_lawF_665 (E : kx_E) : kx_look 665 (cd_L_lawF E) = t_fun (f2_X9_many E) 0 0 668 2 := funext fun _ => rfl
theorem lo_L_lawF_668 (E : kx_E) : kx_look 668 (cd_L_lawF E) = t_if 671 1067 (fun x => x ≤ 0) := funext fun _ => rfl
theorem lo_L_lawF_671 (E : kx_E) : kx_look 671 (cd_L_lawF E) = t_al 672 1 := funext fun _ => rfl
theorem lo_L_lawF_672 (E : kx_E) : kx_look 672 (cd_L_lawF E) = t_call (c2t_L_isClocked E) 675 1 0 := funext fun _ => rfl
theorem lo_L_lawF_675 (E : kx_E) : kx_look 675 (cd_L_lawF E) = t_if 678 1067 (fun x => x ≠ 0) := funext fun _ => rfl
theorem lo_L_lawF_678 (E : kx_E) : kx_look 678 (cd_L_lawF E) = t_push 679 (.int 0) := funext fun _ => rfl
theorem lo_L_lawF_679 (E : kx_E) : kx_look 679 (cd_L_lawF E) = t_one := funext fun _ => rfl
theorem lo_L_lawF_680 (E : kx_E) : kx_look 680 (cd_L_lawF E) = t_push 681 (.int 1) := funext fun _ => rfl
theorem lo_L_lawF_681 (E : kx_E) : kx_look 681 (cd_L_lawF E) = t_il 683 6 := funext fun _ => rfl
theorem lo_L_lawF_683 (E : kx_E) : kx_look 683 (cd_L_lawF E) = t_push 684 (.int 4) := funext fun _ => rfl
theorem lo_L_lawF_684 (E : kx_E) : kx_look 684 (cd_L_lawF E) = t_bin 685 (fun x y => x >>> (y &&& 31)) := funext fun _ => rfl
theorem lo_L_lawF_685 (E : kx_E) : kx_look 685 (cd_L_lawF E) = t_push 687 (.int 20) := funext fun _ => rfl
theorem lo_L_lawF_687 (E : kx_E) : kx_look 687 (cd_L_lawF E) = t_fun (f2_L_below E) 0 0 690 2 := funext fun _ => rfl
theorem lo_L_lawF_690 (E : kx_E) : kx_look 690 (cd_L_lawF E) = t_bin 691 (fun x y => x + y) := funext fun _ => rfl
theorem lo_L_lawF_691 (E : kx_E) : kx_look 691 (cd_L_lawF E) = t_is 693 13 := funext fun _ => rfl
theorem lo_L_lawF_693 (E : kx_E) : kx_look 693 (cd_L_lawF E) = t_push 694 (.int 1) := funext fun _ => rfl
theorem lo_L_lawF_694 (E : kx_E) : kx_look 694 (cd_L_lawF E) = t_il 696 7 := funext fun _ => rfl
theorem lo_L_lawF_696 (E : kx_E) : kx_look 696 (cd_L_lawF E) = t_push 697 (.int 5) := funext fun _ => rfl
theorem lo_L_lawF_697 (E : kx_E) : kx_look 697 (cd_L_lawF E) = t_bin 698 (fun x y => x >>> (y &&& 31)) := funext fun _ => rfl
theorem lo_L_lawF_698 (E : kx_E) : kx_look 698 (cd_L_lawF E) = t_push 700 (.int 60) := funext fun _ => rfl
theorem lo_L_lawF_700 (E : kx_E) : kx_look 700 (cd_L_lawF E) = t_fun (f2_L_below E) 0 0 703 2 := funext fun _ => rfl
theorem lo_L_lawF_703 (E : kx_E) : kx_look 703 (cd_L_lawF E) = t_bin 704 (fun x y => x + y) := funext fun _ => rfl
theorem lo_L_lawF_704 (E : kx_E) : kx_look 704 (cd_L_lawF E) = t_is 706 14 := funext fun _ => rfl
theorem lo_L_lawF_706 (E : kx_E) : kx_look 706 (cd_L_lawF E) = t_il 708 10 := funext fun _ => rfl
theorem lo_L_lawF_708 (E : kx_E) : kx_look 708 (cd_L_lawF E) = t_if 711 1067 (fun x => x ≠ 0) := funext fun _ => rfl
theorem lo_L_lawF_711 (E : kx_E) : kx_look 711 (cd_L_lawF E) = t_il 713 13 := funext fun _ => rfl
theorem lo_L_lawF_713 (E : kx_E) : kx_look 713 (cd_L_lawF E) = t_al 714 1 := funext fun _ => rfl
theorem lo_L_lawF_714 (E : kx_E) : kx_look 714 (cd_L_lawF E) = t_il 716 9 := funext fun _ => rfl
theorem lo_L_lawF_716 (E : kx_E) : kx_look 716 (cd_L_lawF E) = t_push 717 (.int 2) := funext fun _ => rfl
theorem lo_L_lawF_717 (E : kx_E) : kx_look 717 (cd_L_lawF E) = t_fun (f2_X9_ofLot E) 0 0 720 3 := funext fun _ => rfl
theorem lo_L_lawF_720 (E : kx_E) : kx_look 720 (cd_L_lawF E) = t_ic 723 1067 (fun x y => y < x) := funext fun _ => rfl
theorem lo_L_lawF_723 (E : kx_E) : kx_look 723 (cd_L_lawF E) = t_il 725 13 := funext fun _ => rfl
theorem lo_L_lawF_725 (E : kx_E) : kx_look 725 (cd_L_lawF E) = t_il 727 14 := funext fun _ => rfl
theorem lo_L_lawF_727 (E : kx_E) : kx_look 727 (cd_L_lawF E) = t_bin 728 (fun x y => x * y) := funext fun _ => rfl
theorem lo_L_lawF_728 (E : kx_E) : kx_look 728 (cd_L_lawF E) = t_al 729 1 := funext fun _ => rfl
theorem lo_L_lawF_729 (E : kx_E) : kx_look 729 (cd_L_lawF E) = t_il 731 8 := funext fun _ => rfl
theorem lo_L_lawF_731 (E : kx_E) : kx_look 731 (cd_L_lawF E) = t_push 732 (.int 0) := funext fun _ => rfl
theorem lo_L_lawF_732 (E : kx_E) : kx_look 732 (cd_L_lawF E) = t_fun (f2_X9_ofBuyer E) 0 0 735 3 := funext fun _ => rfl
theorem lo_L_lawF_735 (E : kx_E) : kx_look 735 (cd_L_lawF E) = t_ic 738 1067 (fun x y => y < x) := funext fun _ => rfl
theorem lo_L_lawF_738 (E : kx_E) : kx_look 738 (cd_L_lawF E) = t_al 739 1 := funext fun _ => rfl
theorem lo_L_lawF_739 (E : kx_E) : kx_look 739 (cd_L_lawF E) = t_il 741 9 := funext fun _ => rfl
theorem lo_L_lawF_741 (E : kx_E) : kx_look 741 (cd_L_lawF E) = t_il 743 8 := funext fun _ => rfl
theorem lo_L_lawF_743 (E : kx_E) : kx_look 743 (cd_L_lawF E) = t_il 745 13 := funext fun _ => rfl
theorem lo_L_lawF_745 (E : kx_E) : kx_look 745 (cd_L_lawF E) = t_il 747 14 := funext fun _ => rfl
theorem lo_L_lawF_747 (E : kx_E) : kx_look 747 (cd_L_lawF E) = t_il 749 7 := funext fun _ => rfl
theorem lo_L_lawF_749 (E : kx_E) : kx_look 749 (cd_L_lawF E) = t_push 750 (.int 4) := funext fun _ => rfl
theorem lo_L_lawF_750 (E : kx_E) : kx_look 750 (cd_L_lawF E) = t_bin 751 (fun x y => x >>> (y &&& 31)) := funext fun _ => rfl
theorem lo_L_lawF_751 (E : kx_E) : kx_look 751 (cd_L_lawF E) = t_push 752 (.int 2) := funext fun _ => rfl
theorem lo_L_lawF_752 (E : kx_E) : kx_look 752 (cd_L_lawF E) = t_fun (f2_L_below E) 0 0 755 2 := funext fun _ => rfl
theorem lo_L_lawF_755 (E : kx_E) : kx_look 755 (cd_L_lawF E) = t_if 758 762 (fun x => x ≠ 0) := funext fun _ => rfl
theorem lo_L_lawF_758 (E : kx_E) : kx_look 758 (cd_L_lawF E) = t_push 759 (.int 1) := funext fun _ => rfl
theorem lo_L_lawF_759 (E : kx_E) : kx_look 759 (cd_L_lawF E) = t_go 763 := funext fun _ => rfl
theorem lo_L_lawF_762 (E : kx_E) : kx_look 762 (cd_L_lawF E) = t_push 763 (.int 0) := funext fun _ => rfl
theorem lo_L_lawF_763 (E : kx_E) : kx_look 763 (cd_L_lawF E) = t_call (c2t_L_isUndone E) 766 6 0 := funext fun _ => rfl
theorem lo_L_lawF_766 (E : kx_E) : kx_look 766 (cd_L_lawF E) = t_if 769 1067 (fun x => x ≠ 0) := funext fun _ => rfl
theorem lo_L_lawF_769 (E : kx_E) : kx_look 769 (cd_L_lawF E) = t_push 770 (.int 0) := funext fun _ => rfl
theorem lo_L_lawF_770 (E : kx_E) : kx_look 770 (cd_L_lawF E) = t_one := funext fun _ => rfl
theorem lo_L_lawI_771 (E : kx_E) : kx_look 771 (cd_L_lawI E) = t_al 772 1 := funext fun _ => rfl
theorem lo_L_lawI_772 (E : kx_E) : kx_look 772 (cd_L_lawI E) = t_il 774 8 := funext fun _ => rfl
theorem lo_L_lawI_774 (E : kx_E) : kx_look 774 (cd_L_lawI E) = t_il 776 6 := funext fun _ => rfl
theorem lo_L_lawI_776 (E : kx_E) : kx_look 776 (cd_L_lawI E) = t_push 777 (.int 4) := funext fun _ => rfl
theorem lo_L_lawI_777 (E : kx_E) : kx_look 777 (cd_L_lawI E) = t_bin 778 (fun x y => x >>> (y &&& 31)) := funext fun _ => rfl
theorem lo_L_lawI_778 (E : kx_E) : kx_look 778 (cd_L_lawI E) = t_push 779 (.int 3) := funext fun _ => rfl
theorem lo_L_lawI_779 (E : kx_E) : kx_look 779 (cd_L_lawI E) = t_fun (f2_L_below E) 0 0 782 2 := funext fun _ => rfl
theorem lo_L_lawI_782 (E : kx_E) : kx_look 782 (cd_L_lawI E) = t_if 785 789 (fun x => x ≠ 0) := funext fun _ => rfl
theorem lo_L_lawI_785 (E : kx_E) : kx_look 785 (cd_L_lawI E) = t_push 786 (.int (-1)) := funext fun _ => rfl
theorem lo_L_lawI_786 (E : kx_E) : kx_look 786 (cd_L_lawI E) = t_go 804 := funext fun _ => rfl
theorem lo_L_lawI_789 (E : kx_E) : kx_look 789 (cd_L_lawI E) = t_al 790 1 := funext fun _ => rfl
theorem lo_L_lawI_790 (E : kx_E) : kx_look 790 (cd_L_lawI E) = t_push 791 (.int 0) := funext fun _ => rfl
theorem lo_L_lawI_791 (E : kx_E) : kx_look 791 (cd_L_lawI E) = t_fun (f2_X9_many E) 0 0 794 2 := funext fun _ => rfl
theorem lo_L_lawI_794 (E : kx_E) : kx_look 794 (cd_L_lawI E) = t_il 796 7 := funext fun _ => rfl
theorem lo_L_lawI_796 (E : kx_E) : kx_look 796 (cd_L_lawI E) = t_push 797 (.int 3) := funext fun _ => rfl
theorem lo_L_lawI_797 (E : kx_E) : kx_look 797 (cd_L_lawI E) = t_bin 798 (fun x y => x >>> (y &&& 31)) := funext fun _ => rfl
theorem lo_L_lawI_798 (E : kx_E) : kx_look 798 (cd_L_lawI E) = t_push 800 (.int 6) := funext fun _ => rfl
theorem lo_L_lawI_800 (E : kx_E) : kx_look 800 (cd_L_lawI E) = t_fun (f2_L_below E) 0 0 803 2 := funext fun _ => rfl
theorem lo_L_lawI_803 (E : kx_E) : kx_look 803 (cd_L_lawI E) = t_bin 804 (fun x y => x + y) := funext fun _ => rfl
theorem lo_L_lawI_804 (E : kx_E) : kx_look 804 (cd_L_lawI E) = t_fun (f2_X9_leave E) 0 0 807 3 := funext fun _ => rfl
theorem lo_L_lawI_807 (E : kx_E) : kx_look 807 (cd_L_lawI E) = t_push 808 (.int (-1)) := funext fun _ => rfl
theorem lo_L_lawI_808 (E : kx_E) : kx_look 808 (cd_L_lawI E) = t_ic 811 829 (fun x y => x < y) := funext fun _ => rfl
theorem lo_L_lawI_811 (E : kx_E) : kx_look 811 (cd_L_lawI E) = t_al 812 1 := funext fun _ => rfl
theorem lo_L_lawI_812 (E : kx_E) : kx_look 812 (cd_L_lawI E) = t_il 814 8 := funext fun _ => rfl
theorem lo_L_lawI_814 (E : kx_E) : kx_look 814 (cd_L_lawI E) = t_il 816 7 := funext fun _ => rfl
theorem lo_L_lawI_816 (E : kx_E) : kx_look 816 (cd_L_lawI E) = t_push 818 (.int 10) := funext fun _ => rfl
theorem lo_L_lawI_818 (E : kx_E) : kx_look 818 (cd_L_lawI E) = t_fun (f2_L_below E) 0 0 821 2 := funext fun _ => rfl
theorem lo_L_lawI_821 (E : kx_E) : kx_look 821 (cd_L_lawI E) = t_fun (f2_X9_even E) 0 0 824 3 := funext fun _ => rfl
theorem lo_L_lawI_824 (E : kx_E) : kx_look 824 (cd_L_lawI E) = t_push 826 (.int 9) := funext fun _ => rfl
theorem lo_L_lawI_826 (E : kx_E) : kx_look 826 (cd_L_lawI E) = t_ic 829 1067 (fun x y => x ≤ y) := funext fun _ => rfl
theorem lo_L_lawI_829 (E : kx_E) : kx_look 829 (cd_L_lawI E) = t_push 830 (.int 0) := funext fun _ => rfl
theorem lo_L_lawI_830 (E : kx_E) : kx_look 830 (cd_L_lawI E) = t_one := funext fun _ => rfl
theorem lo_L_lawI_831 (E : kx_E) : kx_look 831 (cd_L_lawI E) = t_al 832 1 := funext fun _ => rfl
theorem lo_L_lawI_832 (E : kx_E) : kx_look 832 (cd_L_lawI E) = t_il 834 8 := funext fun _ => rfl
theorem lo_L_lawI_834 (E : kx_E) : kx_look 834 (cd_L_lawI E) = t_push 835 (.int 4) := funext fun _ => rfl
theorem lo_L_lawI_835 (E : kx_E) : kx_look 835 (cd_L_lawI E) = t_fun (f2_X9_ofBuyer E) 0 0 838 3 := funext fun _ => rfl
theorem lo_L_lawI_838 (E : kx_E) : kx_look 838 (cd_L_lawI E) = t_al 839 1 := funext fun _ => rfl
theorem lo_L_lawI_839 (E : kx_E) : kx_look 839 (cd_L_lawI E) = t_il 841 8 := funext fun _ => rfl
theorem lo_L_lawI_841 (E : kx_E) : kx_look 841 (cd_L_lawI E) = t_push 842 (.int 5) := funext fun _ => rfl
theorem lo_L_lawI_842 (E : kx_E) : kx_look 842 (cd_L_lawI E) = t_fun (f2_X9_ofBuyer E) 0 0 845 3 := funext fun _ => rfl
theorem lo_L_lawI_845 (E : kx_E) : kx_look 845 (cd_L_lawI E) = t_bin 846 (fun x y => x + y) := funext fun _ => rfl
theorem lo_L_lawI_846 (E : kx_E) : kx_look 846 (cd_L_lawI E) = t_al 847 1 := funext fun _ => rfl
theorem lo_L_lawI_847 (E : kx_E) : kx_look 847 (cd_L_lawI E) = t_il 849 8 := funext fun _ => rfl
theorem lo_L_lawI_849 (E : kx_E) : kx_look 849 (cd_L_lawI E) = t_push 851 (.int 6) := funext fun _ => rfl
theorem lo_L_lawI_851 (E : kx_E) : kx_look 851 (cd_L_lawI E) = t_fun (f2_X9_ofBuyer E) 0 0 854 3 := funext fun _ => rfl
theorem lo_L_lawI_854 (E : kx_E) : kx_look 854 (cd_L_lawI E) = t_bin 855 (fun x y => x + y) := funext fun _ => rfl
theorem lo_L_lawI_855 (E : kx_E) : kx_look 855 (cd_L_lawI E) = t_is 857 15 := funext fun _ => rfl
theorem lo_L_lawI_857 (E : kx_E) : kx_look 857 (cd_L_lawI E) = t_al 858 1 := funext fun _ => rfl
theorem lo_L_lawI_858 (E : kx_E) : kx_look 858 (cd_L_lawI E) = t_il 860 8 := funext fun _ => rfl
theorem lo_L_lawI_860 (E : kx_E) : kx_look 860 (cd_L_lawI E) = t_push 861 (.int 1) := funext fun _ => rfl
theorem lo_L_lawI_861 (E : kx_E) : kx_look 861 (cd_L_lawI E) = t_il 863 7 := funext fun _ => rfl
theorem lo_L_lawI_863 (E : kx_E) : kx_look 863 (cd_L_lawI E) = t_push 864 (.int 2) := funext fun _ => rfl
theorem lo_L_lawI_864 (E : kx_E) : kx_look 864 (cd_L_lawI E) = t_bin 865 (fun x y => x >>> (y &&& 31)) := funext fun _ => rfl
theorem lo_L_lawI_865 (E : kx_E) : kx_look 865 (cd_L_lawI E) = t_push 867 (.int 6) := funext fun _ => rfl
theorem lo_L_lawI_867 (E : kx_E) : kx_look 867 (cd_L_lawI E) = t_fun (f2_L_below E) 0 0 870 2 := funext fun _ => rfl
theorem lo_L_lawI_870 (E : kx_E) : kx_look 870 (cd_L_lawI E) = t_bin 871 (fun x y => x + y) := funext fun _ => rfl
theorem lo_L_lawI_871 (E : kx_E) : kx_look 871 (cd_L_lawI E) = t_fun (f2_X9_bind E) 0 0 874 3 := funext fun _ => rfl
theorem lo_L_lawI_874 (E : kx_E) : kx_look 874 (cd_L_lawI E) = t_is 876 16 := funext fun _ => rfl
theorem lo_L_lawI_876 (E : kx_E) : kx_look 876 (cd_L_lawI E) = t_il 878 15 := funext fun _ => rfl
theorem lo_L_lawI_878 (E : kx_E) : kx_look 878 (cd_L_lawI E) = t_al 879 1 := funext fun _ => rfl
theorem lo_L_lawI_879 (E : kx_E) : kx_look 879 (cd_L_lawI E) = t_il 881 8 := funext fun _ => rfl
theorem lo_L_lawI_881 (E : kx_E) : kx_look 881 (cd_L_lawI E) = t_push 882 (.int 4) := funext fun _ => rfl
theorem lo_L_lawI_882 (E : kx_E) : kx_look 882 (cd_L_lawI E) = t_fun (f2_X9_ofBuyer E) 0 0 885 3 := funext fun _ => rfl
theorem lo_L_lawI_885 (E : kx_E) : kx_look 885 (cd_L_lawI E) = t_bin 886 (fun x y => x - y) := funext fun _ => rfl
theorem lo_L_lawI_886 (E : kx_E) : kx_look 886 (cd_L_lawI E) = t_al 887 1 := funext fun _ => rfl
theorem lo_L_lawI_887 (E : kx_E) : kx_look 887 (cd_L_lawI E) = t_il 889 8 := funext fun _ => rfl
theorem lo_L_lawI_889 (E : kx_E) : kx_look 889 (cd_L_lawI E) = t_push 890 (.int 5) := funext fun _ => rfl
theorem lo_L_lawI_890 (E : kx_E) : kx_look 890 (cd_L_lawI E) = t_fun (f2_X9_ofBuyer E) 0 0 893 3 := funext fun _ => rfl
theorem lo_L_lawI_893 (E : kx_E) : kx_look 893 (cd_L_lawI E) = t_bin 894 (fun x y => x - y) := funext fun _ => rfl
theorem lo_L_lawI_894 (E : kx_E) : kx_look 894 (cd_L_lawI E) = t_al 895 1 := funext fun _ => rfl
theorem lo_L_lawI_895 (E : kx_E) : kx_look 895 (cd_L_lawI E) = t_il 897 8 := funext fun _ => rfl
theorem lo_L_lawI_897 (E : kx_E) : kx_look 897 (cd_L_lawI E) = t_push 899 (.int 6) := funext fun _ => rfl
theorem lo_L_lawI_899 (E : kx_E) : kx_look 899 (cd_L_lawI E) = t_fun (f2_X9_ofBuyer E) 0 0 902 3 := funext fun _ => rfl
theorem lo_L_lawI_902 (E : kx_E) : kx_look 902 (cd_L_lawI E) = t_bin 903 (fun x y => x - y) := funext fun _ => rfl
theorem lo_L_lawI_903 (E : kx_E) : kx_look 903 (cd_L_lawI E) = t_is 905 17 := funext fun _ => rfl
theorem lo_L_lawI_905 (E : kx_E) : kx_look 905 (cd_L_lawI E) = t_il 907 17 := funext fun _ => rfl
theorem lo_L_lawI_907 (E : kx_E) : kx_look 907 (cd_L_lawI E) = t_push 909 (.int 6) := funext fun _ => rfl
theorem lo_L_lawI_909 (E : kx_E) : kx_look 909 (cd_L_lawI E) = t_il 911 16 := funext fun _ => rfl
theorem lo_L_lawI_911 (E : kx_E) : kx_look 911 (cd_L_lawI E) = t_bin 912 (fun x y => x * y) := funext fun _ => rfl
theorem lo_L_lawI_912 (E : kx_E) : kx_look 912 (cd_L_lawI E) = t_ic 915 925 (fun x y => x < y) := funext fun _ => rfl
theorem lo_L_lawI_915 (E : kx_E) : kx_look 915 (cd_L_lawI E) = t_il 917 17 := funext fun _ => rfl
theorem lo_L_lawI_917 (E : kx_E) : kx_look 917 (cd_L_lawI E) = t_push 919 (.int 9) := funext fun _ => rfl
theorem lo_L_lawI_919 (E : kx_E) : kx_look 919 (cd_L_lawI E) = t_il 921 16 := funext fun _ => rfl
theorem lo_L_lawI_921 (E : kx_E) : kx_look 921 (cd_L_lawI E) = t_bin 922 (fun x y => x * y) := funext fun _ => rfl
theorem lo_L_lawI_922 (E : kx_E) : kx_look 922 (cd_L_lawI E) = t_ic 925 927 (fun x y => x ≤ y) := funext fun _ => rfl
theorem lo_L_lawI_925 (E : kx_E) : kx_look 925 (cd_L_lawI E) = t_push 926 (.int 0) := funext fun _ => rfl
theorem lo_L_lawI_926 (E : kx_E) : kx_look 926 (cd_L_lawI E) = t_one := funext fun _ => rfl
theorem lo_L_lawI_927 (E : kx_E) : kx_look 927 (cd_L_lawI E) = t_il 929 4 := funext fun _ => rfl
theorem lo_L_lawI_929 (E : kx_E) : kx_look 929 (cd_L_lawI E) = t_il 931 17 := funext fun _ => rfl
theorem lo_L_lawI_931 (E : kx_E) : kx_look 931 (cd_L_lawI E) = t_bin 932 (fun x y => x + y) := funext fun _ => rfl
theorem lo_L_lawI_932 (E : kx_E) : kx_look 932 (cd_L_lawI E) = t_is 934 4 := funext fun _ => rfl
theorem lo_L_lawI_934 (E : kx_E) : kx_look 934 (cd_L_lawI E) = t_al 935 1 := funext fun _ => rfl
theorem lo_L_lawI_935 (E : kx_E) : kx_look 935 (cd_L_lawI E) = t_il 937 8 := funext fun _ => rfl
theorem lo_L_lawI_937 (E : kx_E) : kx_look 937 (cd_L_lawI E) = t_push 939 (.int 7) := funext fun _ => rfl
theorem lo_L_lawI_939 (E : kx_E) : kx_look 939 (cd_L_lawI E) = t_fun (f2_X9_ofBuyer E) 0 0 942 3 := funext fun _ => rfl
theorem lo_L_lawI_942 (E : kx_E) : kx_look 942 (cd_L_lawI E) = t_if 945 1067 (fun x => x ≤ 0) := funext fun _ => rfl
theorem lo_L_lawI_945 (E : kx_E) : kx_look 945 (cd_L_lawI E) = t_al 946 1 := funext fun _ => rfl
theorem lo_L_lawI_946 (E : kx_E) : kx_look 946 (cd_L_lawI E) = t_il 948 8 := funext fun _ => rfl
theorem lo_L_lawI_948 (E : kx_E) : kx_look 948 (cd_L_lawI E) = t_push 949 (.int 1) := funext fun _ => rfl
theorem lo_L_lawI_949 (E : kx_E) : kx_look 949 (cd_L_lawI E) = t_fun (f2_X9_back E) 0 0 952 3 := funext fun _ => rfl
theorem lo_L_lawI_952 (E : kx_E) : kx_look 952 (cd_L_lawI E) = t_al 953 1 := funext fun _ => rfl
theorem lo_L_lawI_953 (E : kx_E) : kx_look 953 (cd_L_lawI E) = t_push 955 (.int 8) := funext fun _ => rfl
theorem lo_L_lawI_955 (E : kx_E) : kx_look 955 (cd_L_lawI E) = t_fun (f2_X9_many E) 0 0 958 2 := funext fun _ => rfl
theorem lo_L_lawI_958 (E : kx_E) : kx_look 958 (cd_L_lawI E) = t_ic 961 1067 (fun x y => x = y) := funext fun _ => rfl
theorem lo_L_lawI_961 (E : kx_E) : kx_look 961 (cd_L_lawI E) = t_push 962 (.int 0) := funext fun _ => rfl
theorem lo_L_lawI_962 (E : kx_E) : kx_look 962 (cd_L_lawI E) = t_one := funext fun _ => rfl
theorem lo_L_lawJ_963 (E : kx_E) : kx_look 963 (cd_L_lawJ E) = t_il 965 10 := funext fun _ => rfl
theorem lo_L_lawJ_965 (E : kx_E) : kx_look 965 (cd_L_lawJ E) = t_if 968 1067 (fun x => x ≠ 0) := funext fun _ => rfl
theorem lo_L_lawJ_968 (E : kx_E) : kx_look 968 (cd_L_lawJ E) = t_il 970 7 := funext fun _ => rfl
theorem lo_L_lawJ_970 (E : kx_E) : kx_look 970 (cd_L_lawJ E) = t_push 971 (.int 3) := funext fun _ => rfl
theorem lo_L_lawJ_971 (E : kx_E) : kx_look 971 (cd_L_lawJ E) = t_fun (f2_L_below E) 0 0 974 2 := funext fun _ => rfl
theorem lo_L_lawJ_974 (E : kx_E) : kx_look 974 (cd_L_lawJ E) = t_if 977 1067 (fun x => x ≠ 0) := funext fun _ => rfl
theorem lo_L_lawJ_977 (E : kx_E) : kx_look 977 (cd_L_lawJ E) = t_al 978 1 := funext fun _ => rfl
theorem lo_L_lawJ_978 (E : kx_E) : kx_look 978 (cd_L_lawJ E) = t_il 980 9 := funext fun _ => rfl
theorem lo_L_lawJ_980 (E : kx_E) : kx_look 980 (cd_L_lawJ E) = t_push 981 (.int 1) := funext fun _ => rfl
theorem lo_L_lawJ_981 (E : kx_E) : kx_look 981 (cd_L_lawJ E) = t_fun (f2_X9_clear E) 0 0 984 3 := funext fun _ => rfl
theorem lo_L_lawJ_984 (E : kx_E) : kx_look 984 (cd_L_lawJ E) = t_if 987 1005 (fun x => x < 0) := funext fun _ => rfl
theorem lo_L_lawJ_987 (E : kx_E) : kx_look 987 (cd_L_lawJ E) = t_al 988 1 := funext fun _ => rfl
theorem lo_L_lawJ_988 (E : kx_E) : kx_look 988 (cd_L_lawJ E) = t_il 990 9 := funext fun _ => rfl
theorem lo_L_lawJ_990 (E : kx_E) : kx_look 990 (cd_L_lawJ E) = t_push 991 (.int 2) := funext fun _ => rfl
theorem lo_L_lawJ_991 (E : kx_E) : kx_look 991 (cd_L_lawJ E) = t_fun (f2_X9_ofLot E) 0 0 994 3 := funext fun _ => rfl
theorem lo_L_lawJ_994 (E : kx_E) : kx_look 994 (cd_L_lawJ E) = t_al 995 1 := funext fun _ => rfl
theorem lo_L_lawJ_995 (E : kx_E) : kx_look 995 (cd_L_lawJ E) = t_il 997 9 := funext fun _ => rfl
theorem lo_L_lawJ_997 (E : kx_E) : kx_look 997 (cd_L_lawJ E) = t_push 998 (.int 5) := funext fun _ => rfl
theorem lo_L_lawJ_998 (E : kx_E) : kx_look 998 (cd_L_lawJ E) = t_fun (f2_X9_ofLot E) 0 0 1001 3 := funext fun _ => rfl
theorem lo_L_lawJ_1001 (E : kx_E) : kx_look 1001 (cd_L_lawJ E) = t_bin 1002 (fun x y => x + y) := funext fun _ => rfl
theorem lo_L_lawJ_1002 (E : kx_E) : kx_look 1002 (cd_L_lawJ E) = t_if 1005 1067 (fun x => x = 0) := funext fun _ => rfl
theorem lo_L_lawJ_1005 (E : kx_E) : kx_look 1005 (cd_L_lawJ E) = t_push 1006 (.int 0) := funext fun _ => rfl
theorem lo_L_lawJ_1006 (E : kx_E) : kx_look 1006 (cd_L_lawJ E) = t_one := funext fun _ => rfl
theorem lo_L_lawJ_1007 (E : kx_E) : kx_look 1007 (cd_L_lawJ E) = t_push 1008 (.int 1) := funext fun _ => rfl
theorem lo_L_lawJ_1008 (E : kx_E) : kx_look 1008 (cd_L_lawJ E) = t_il 1010 7 := funext fun _ => rfl
theorem lo_L_lawJ_1010 (E : kx_E) : kx_look 1010 (cd_L_lawJ E) = t_push 1011 (.int 1) := funext fun _ => rfl
theorem lo_L_lawJ_1011 (E : kx_E) : kx_look 1011 (cd_L_lawJ E) = t_bin 1012 (fun x y => x >>> (y &&& 31)) := funext fun _ => rfl
theorem lo_L_lawJ_1012 (E : kx_E) : kx_look 1012 (cd_L_lawJ E) = t_push 1013 (.int 4) := funext fun _ => rfl
theorem lo_L_lawJ_1013 (E : kx_E) : kx_look 1013 (cd_L_lawJ E) = t_fun (f2_L_below E) 0 0 1016 2 := funext fun _ => rfl
theorem lo_L_lawJ_1016 (E : kx_E) : kx_look 1016 (cd_L_lawJ E) = t_bin 1017 (fun x y => x + y) := funext fun _ => rfl
theorem lo_L_lawJ_1017 (E : kx_E) : kx_look 1017 (cd_L_lawJ E) = t_is 1019 18 := funext fun _ => rfl
theorem lo_L_lawJ_1019 (E : kx_E) : kx_look 1019 (cd_L_lawJ E) = t_push 1020 (.int 0) := funext fun _ => rfl
theorem lo_L_lawJ_1020 (E : kx_E) : kx_look 1020 (cd_L_lawJ E) = t_is 1022 19 := funext fun _ => rfl
theorem lo_L_lawJ_1022 (E : kx_E) : kx_look 1022 (cd_L_lawJ E) = t_il 1024 19 := funext fun _ => rfl
theorem lo_L_lawJ_1024 (E : kx_E) : kx_look 1024 (cd_L_lawJ E) = t_push 1025 (.int 3) := funext fun _ => rfl
theorem lo_L_lawJ_1025 (E : kx_E) : kx_look 1025 (cd_L_lawJ E) = t_ic 1028 1047 (fun x y => y ≤ x) := funext fun _ => rfl
theorem lo_L_lawJ_1028 (E : kx_E) : kx_look 1028 (cd_L_lawJ E) = t_il 1029 3 := funext fun _ => rfl
theorem lo_L_lawJ_1029 (E : kx_E) : kx_look 1029 (cd_L_lawJ E) = t_il 1031 18 := funext fun _ => rfl
theorem lo_L_lawJ_1031 (E : kx_E) : kx_look 1031 (cd_L_lawJ E) = t_al 1032 1 := funext fun _ => rfl
theorem lo_L_lawJ_1032 (E : kx_E) : kx_look 1032 (cd_L_lawJ E) = t_il 1034 19 := funext fun _ => rfl
theorem lo_L_lawJ_1034 (E : kx_E) : kx_look 1034 (cd_L_lawJ E) = t_push 1035 (.int 1) := funext fun _ => rfl
theorem lo_L_lawJ_1035 (E : kx_E) : kx_look 1035 (cd_L_lawJ E) = t_fun (f2_X9_ofGrower E) 0 0 1038 3 := funext fun _ => rfl
theorem lo_L_lawJ_1038 (E : kx_E) : kx_look 1038 (cd_L_lawJ E) = t_bin 1039 (fun x y => x * y) := funext fun _ => rfl
theorem lo_L_lawJ_1039 (E : kx_E) : kx_look 1039 (cd_L_lawJ E) = t_bin 1040 (fun x y => x + y) := funext fun _ => rfl
theorem lo_L_lawJ_1040 (E : kx_E) : kx_look 1040 (cd_L_lawJ E) = t_is 1041 3 := funext fun _ => rfl
theorem lo_L_lawJ_1041 (E : kx_E) : kx_look 1041 (cd_L_lawJ E) = t_inc 1044 19 1 := funext fun _ => rfl
theorem lo_L_lawJ_1044 (E : kx_E) : kx_look 1044 (cd_L_lawJ E) = t_gk 1022 20 := funext fun _ => rfl
theorem lo_L_lawJ_1047 (E : kx_E) : kx_look 1047 (cd_L_lawJ E) = t_al 1048 1 := funext fun _ => rfl
theorem lo_L_lawJ_1048 (E : kx_E) : kx_look 1048 (cd_L_lawJ E) = t_il 1050 18 := funext fun _ => rfl
theorem lo_L_lawJ_1050 (E : kx_E) : kx_look 1050 (cd_L_lawJ E) = t_il 1052 6 := funext fun _ => rfl
theorem lo_L_lawJ_1052 (E : kx_E) : kx_look 1052 (cd_L_lawJ E) = t_push 1053 (.int 4) := funext fun _ => rfl
theorem lo_L_lawJ_1053 (E : kx_E) : kx_look 1053 (cd_L_lawJ E) = t_bin 1054 (fun x y => x >>> (y &&& 31)) := funext fun _ => rfl
theorem lo_L_lawJ_1054 (E : kx_E) : kx_look 1054 (cd_L_lawJ E) = t_push 1056 (.int 10) := funext fun _ => rfl
theorem lo_L_lawJ_1056 (E : kx_E) : kx_look 1056 (cd_L_lawJ E) = t_fun (f2_L_below E) 0 0 1059 2 := funext fun _ => rfl
theorem lo_L_lawJ_1059 (E : kx_E) : kx_look 1059 (cd_L_lawJ E) = t_call (c2t_L_isPassed E) 1062 3 0 := funext fun _ => rfl
theorem lo_L_lawJ_1062 (E : kx_E) : kx_look 1062 (cd_L_lawJ E) = t_if 1065 1067 (fun x => x ≠ 0) := funext fun _ => rfl
theorem lo_L_lawJ_1065 (E : kx_E) : kx_look 1065 (cd_L_lawJ E) = t_push 1066 (.int 0) := funext fun _ => rfl
theorem lo_L_lawJ_1066 (E : kx_E) : kx_look 1066 (cd_L_lawJ E) = t_one := funext fun _ => rfl
theorem lo_L_lawT_1067 (E : kx_E) : kx_look 1067 (cd_L_lawT E) = t_al 1068 1 := funext fun _ => rfl
theorem lo_L_lawT_1068 (E : kx_E) : kx_look 1068 (cd_L_lawT E) = t_il 1069 2 := funext fun _ => rfl
theorem lo_L_lawT_1069 (E : kx_E) : kx_look 1069 (cd_L_lawT E) = t_il 1071 4 := funext fun _ => rfl
theorem lo_L_lawT_1071 (E : kx_E) : kx_look 1071 (cd_L_lawT E) = t_il 1072 3 := funext fun _ => rfl
theorem lo_L_lawT_1072 (E : kx_E) : kx_look 1072 (cd_L_lawT E) = t_call (c2t_L_isSound E) 1075 4 0 := funext fun _ => rfl
theorem lo_L_lawT_1075 (E : kx_E) : kx_look 1075 (cd_L_lawT E) = t_if 1078 1080 (fun x => x ≠ 0) := funext fun _ => rfl
theorem lo_L_lawT_1078 (E : kx_E) : kx_look 1078 (cd_L_lawT E) = t_push 1079 (.int 0) := funext fun _ => rfl
theorem lo_L_lawT_1079 (E : kx_E) : kx_look 1079 (cd_L_lawT E) = t_one := funext fun _ => rfl
theorem lo_L_lawT_1080 (E : kx_E) : kx_look 1080 (cd_L_lawT E) = t_inc 1083 5 1 := funext fun _ => rfl
theorem lo_L_lawT_1083 (E : kx_E) : kx_look 1083 (cd_L_lawT E) = t_gk 200 6 := funext fun _ => rfl
theorem lo_L_lawZ_1086 (E : kx_E) : kx_look 1086 (cd_L_lawZ E) = t_al 1087 1 := funext fun _ => rfl
theorem lo_L_lawZ_1087 (E : kx_E) : kx_look 1087 (cd_L_lawZ E) = t_call (c2t_X9_digest E) 1090 1 11 := funext fun _ => rfl
theorem lo_L_lawZ_1090 (E : kx_E) : kx_look 1090 (cd_L_lawZ E) = t_ls 1092 5 := funext fun _ => rfl
theorem lo_L_lawZ_1092 (E : kx_E) : kx_look 1092 (cd_L_lawZ E) = t_push 1093 (.int 0) := funext fun _ => rfl
theorem lo_L_lawZ_1093 (E : kx_E) : kx_look 1093 (cd_L_lawZ E) = t_is 1095 7 := funext fun _ => rfl
theorem lo_L_lawZ_1095 (E : kx_E) : kx_look 1095 (cd_L_lawZ E) = t_il 1097 7 := funext fun _ => rfl
theorem lo_L_lawZ_1097 (E : kx_E) : kx_look 1097 (cd_L_lawZ E) = t_al 1098 1 := funext fun _ => rfl
theorem lo_L_lawZ_1098 (E : kx_E) : kx_look 1098 (cd_L_lawZ E) = t_push 1099 (.int 3) := funext fun _ => rfl
theorem lo_L_lawZ_1099 (E : kx_E) : kx_look 1099 (cd_L_lawZ E) = t_fun (f2_X9_many E) 0 0 1102 2 := funext fun _ => rfl
theorem lo_L_lawZ_1102 (E : kx_E) : kx_look 1102 (cd_L_lawZ E) = t_ic 1105 1134 (fun x y => y ≤ x) := funext fun _ => rfl
theorem lo_L_lawZ_1105 (E : kx_E) : kx_look 1105 (cd_L_lawZ E) = t_al 1106 1 := funext fun _ => rfl
theorem lo_L_lawZ_1106 (E : kx_E) : kx_look 1106 (cd_L_lawZ E) = t_il 1108 7 := funext fun _ => rfl
theorem lo_L_lawZ_1108 (E : kx_E) : kx_look 1108 (cd_L_lawZ E) = t_fun (f2_X9_wouldFetch E) 0 0 1111 2 := funext fun _ => rfl
theorem lo_L_lawZ_1111 (E : kx_E) : kx_look 1111 (cd_L_lawZ E) = t_push 1113 (.int 99) := funext fun _ => rfl
theorem lo_L_lawZ_1113 (E : kx_E) : kx_look 1113 (cd_L_lawZ E) = t_ic 1116 1126 (fun x y => y < x) := funext fun _ => rfl
theorem lo_L_lawZ_1116 (E : kx_E) : kx_look 1116 (cd_L_lawZ E) = t_al 1117 1 := funext fun _ => rfl
theorem lo_L_lawZ_1117 (E : kx_E) : kx_look 1117 (cd_L_lawZ E) = t_il 1119 7 := funext fun _ => rfl
theorem lo_L_lawZ_1119 (E : kx_E) : kx_look 1119 (cd_L_lawZ E) = t_fun (f2_X9_bestMinimum E) 0 0 1122 2 := funext fun _ => rfl
theorem lo_L_lawZ_1122 (E : kx_E) : kx_look 1122 (cd_L_lawZ E) = t_push 1123 (.int 1) := funext fun _ => rfl
theorem lo_L_lawZ_1123 (E : kx_E) : kx_look 1123 (cd_L_lawZ E) = t_ic 1126 1128 (fun x y => y ≤ x) := funext fun _ => rfl
theorem lo_L_lawZ_1126 (E : kx_E) : kx_look 1126 (cd_L_lawZ E) = t_push 1127 (.int 0) := funext fun _ => rfl
theorem lo_L_lawZ_1127 (E : kx_E) : kx_look 1127 (cd_L_lawZ E) = t_one := funext fun _ => rfl
theorem lo_L_lawZ_1128 (E : kx_E) : kx_look 1128 (cd_L_lawZ E) = t_inc 1131 7 1 := funext fun _ => rfl
theorem lo_L_lawZ_1131 (E : kx_E) : kx_look 1131 (cd_L_lawZ E) = t_gk 1095 8 := funext fun _ => rfl
theorem lo_L_lawZ_1134 (E : kx_E) : kx_look 1134 (cd_L_lawZ E) = t_al 1135 1 := funext fun _ => rfl
theorem lo_L_lawZ_1135 (E : kx_E) : kx_look 1135 (cd_L_lawZ E) = t_call (c2t_X9_digest E) 1138 1 11 := funext fun _ => rfl
theorem lo_L_lawZ_1138 (E : kx_E) : kx_look 1138 (cd_L_lawZ E) = t_ll 1140 5 := funext fun _ => rfl
theorem lo_L_lawZ_1140 (E : kx_E) : kx_look 1140 (cd_L_lawZ E) = t_lcmp 1141 := funext fun _ => rfl
theorem lo_L_lawZ_1141 (E : kx_E) : kx_look 1141 (cd_L_lawZ E) = t_if 1144 1148 (fun x => x ≠ 0) := funext fun _ => rfl
theorem lo_L_lawZ_1144 (E : kx_E) : kx_look 1144 (cd_L_lawZ E) = t_push 1145 (.int 1) := funext fun _ => rfl
theorem lo_L_lawZ_1145 (E : kx_E) : kx_look 1145 (cd_L_lawZ E) = t_go 1149 := funext fun _ => rfl
theorem lo_L_lawZ_1148 (E : kx_E) : kx_look 1148 (cd_L_lawZ E) = t_push 1149 (.int 0) := funext fun _ => rfl
theorem lo_L_lawZ_1149 (E : kx_E) : kx_look 1149 (cd_L_lawZ E) = t_one := funext fun _ => rfl
