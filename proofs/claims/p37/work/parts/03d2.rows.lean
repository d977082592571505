theorem dX9_book_95 : decode cX9_book 95 = .ok (.putfield 320, 3) := by decide +kernel
theorem dX9_book_98 : decode cX9_book 98 = .ok (.aload_n 1, 1) := by decide +kernel
theorem dX9_book_99 : decode cX9_book 99 = .ok (.getfield 288, 3) := by decide +kernel
theorem dX9_book_102 : decode cX9_book 102 = .ok (.getfield 161, 3) := by decide +kernel
theorem dX9_book_105 : decode cX9_book 105 = .ok (.dup, 1) := by decide +kernel
theorem dX9_book_106 : decode cX9_book 106 = .ok (.getfield 436, 3) := by decide +kernel
theorem dX9_book_109 : decode cX9_book 109 = .ok (.iload 7, 2) := by decide +kernel
theorem dX9_book_111 : decode cX9_book 111 = .ok (.iadd, 1) := by decide +kernel
theorem dX9_book_112 : decode cX9_book 112 = .ok (.putfield 436, 3) := by decide +kernel
theorem dX9_book_115 : decode cX9_book 115 = .ok (.aload_n 1, 1) := by decide +kernel
theorem dX9_book_116 : decode cX9_book 116 = .ok (.getfield 288, 3) := by decide +kernel
theorem dX9_book_119 : decode cX9_book 119 = .ok (.getfield 161, 3) := by decide +kernel
theorem dX9_book_122 : decode cX9_book 122 = .ok (.dup, 1) := by decide +kernel
theorem dX9_book_123 : decode cX9_book 123 = .ok (.getfield 335, 3) := by decide +kernel
theorem dX9_book_126 : decode cX9_book 126 = .ok (.iload_n 3, 1) := by decide +kernel
theorem dX9_book_127 : decode cX9_book 127 = .ok (.iadd, 1) := by decide +kernel
theorem dX9_book_128 : decode cX9_book 128 = .ok (.putfield 335, 3) := by decide +kernel
theorem dX9_book_131 : decode cX9_book 131 = .ok (.aload_n 1, 1) := by decide +kernel
theorem dX9_book_132 : decode cX9_book 132 = .ok (.getfield 288, 3) := by decide +kernel
theorem dX9_book_135 : decode cX9_book 135 = .ok (.dup, 1) := by decide +kernel
theorem dX9_book_136 : decode cX9_book 136 = .ok (.getfield 174, 3) := by decide +kernel
theorem dX9_book_139 : decode cX9_book 139 = .ok (.iload_n 3, 1) := by decide +kernel
theorem dX9_book_140 : decode cX9_book 140 = .ok (.isub, 1) := by decide +kernel
theorem dX9_book_141 : decode cX9_book 141 = .ok (.putfield 174, 3) := by decide +kernel
theorem dX9_book_144 : decode cX9_book 144 = .ok (.aload_n 1, 1) := by decide +kernel
theorem dX9_book_145 : decode cX9_book 145 = .ok (.getfield 288, 3) := by decide +kernel
theorem dX9_book_148 : decode cX9_book 148 = .ok (.dup, 1) := by decide +kernel
theorem dX9_book_149 : decode cX9_book 149 = .ok (.getfield 134, 3) := by decide +kernel
theorem dX9_book_152 : decode cX9_book 152 = .ok (.iload 4, 2) := by decide +kernel
theorem dX9_book_154 : decode cX9_book 154 = .ok (.isub, 1) := by decide +kernel
theorem dX9_book_155 : decode cX9_book 155 = .ok (.putfield 134, 3) := by decide +kernel
theorem dX9_book_158 : decode cX9_book 158 = .ok (.aload_n 0, 1) := by decide +kernel
theorem dX9_book_159 : decode cX9_book 159 = .ok (.dup, 1) := by decide +kernel
theorem dX9_book_160 : decode cX9_book 160 = .ok (.getfield 370, 3) := by decide +kernel
theorem dX9_book_163 : decode cX9_book 163 = .ok (.iload_n 3, 1) := by decide +kernel
theorem dX9_book_164 : decode cX9_book 164 = .ok (.iadd, 1) := by decide +kernel
theorem dX9_book_165 : decode cX9_book 165 = .ok (.putfield 370, 3) := by decide +kernel
theorem dX9_book_168 : decode cX9_book 168 = .ok (.aload_n 0, 1) := by decide +kernel
theorem dX9_book_169 : decode cX9_book 169 = .ok (.dup, 1) := by decide +kernel
theorem dX9_book_170 : decode cX9_book 170 = .ok (.getfield 371, 3) := by decide +kernel
theorem dX9_book_173 : decode cX9_book 173 = .ok (.iload 6, 2) := by decide +kernel
theorem dX9_book_175 : decode cX9_book 175 = .ok (.iadd, 1) := by decide +kernel
theorem dX9_book_176 : decode cX9_book 176 = .ok (.putfield 371, 3) := by decide +kernel
theorem dX9_book_179 : decode cX9_book 179 = .ok (.aload_n 1, 1) := by decide +kernel
theorem dX9_book_180 : decode cX9_book 180 = .ok (.getfield 464, 3) := by decide +kernel
theorem dX9_book_183 : decode cX9_book 183 = .ok (.ifnull 16, 3) := by decide +kernel
theorem dX9_book_186 : decode cX9_book 186 = .ok (.aload_n 1, 1) := by decide +kernel
theorem dX9_book_187 : decode cX9_book 187 = .ok (.getfield 464, 3) := by decide +kernel
theorem dX9_book_190 : decode cX9_book 190 = .ok (.dup, 1) := by decide +kernel
theorem dX9_book_191 : decode cX9_book 191 = .ok (.getfield 354, 3) := by decide +kernel
theorem dX9_book_194 : decode cX9_book 194 = .ok (.iload_n 3, 1) := by decide +kernel
theorem dX9_book_195 : decode cX9_book 195 = .ok (.isub, 1) := by decide +kernel
theorem dX9_book_196 : decode cX9_book 196 = .ok (.putfield 354, 3) := by decide +kernel
theorem dX9_book_199 : decode cX9_book 199 = .ok (.return_, 1) := by decide +kernel
theorem dX9_bindsOne_0 : decode cX9_bindsOne 0 = .ok (.iconst 2, 1) := by decide +kernel
theorem dX9_bindsOne_1 : decode cX9_bindsOne 1 = .ok (.aload_n 0, 1) := by decide +kernel
theorem dX9_bindsOne_2 : decode cX9_bindsOne 2 = .ok (.iconst 1, 1) := by decide +kernel
theorem dX9_bindsOne_3 : decode cX9_bindsOne 3 = .ok (.invokevirtual 171, 3) := by decide +kernel
theorem dX9_bindsOne_6 : decode cX9_bindsOne 6 = .ok (.invokestatic 203, 3) := by decide +kernel
theorem dX9_bindsOne_9 : decode cX9_bindsOne 9 = .ok (.istore_n 1, 1) := by decide +kernel
theorem dX9_bindsOne_10 : decode cX9_bindsOne 10 = .ok (.iconst 1, 1) := by decide +kernel
theorem dX9_bindsOne_11 : decode cX9_bindsOne 11 = .ok (.aload_n 0, 1) := by decide +kernel
theorem dX9_bindsOne_12 : decode cX9_bindsOne 12 = .ok (.iconst 2, 1) := by decide +kernel
theorem dX9_bindsOne_13 : decode cX9_bindsOne 13 = .ok (.invokevirtual 171, 3) := by decide +kernel
theorem dX9_bindsOne_16 : decode cX9_bindsOne 16 = .ok (.invokestatic 203, 3) := by decide +kernel
theorem dX9_bindsOne_19 : decode cX9_bindsOne 19 = .ok (.istore_n 2, 1) := by decide +kernel
theorem dX9_bindsOne_20 : decode cX9_bindsOne 20 = .ok (.iconst 3, 1) := by decide +kernel
theorem dX9_bindsOne_21 : decode cX9_bindsOne 21 = .ok (.iconst 2, 1) := by decide +kernel
theorem dX9_bindsOne_22 : decode cX9_bindsOne 22 = .ok (.iconst 2, 1) := by decide +kernel
theorem dX9_bindsOne_23 : decode cX9_bindsOne 23 = .ok (.iload_n 1, 1) := by decide +kernel
theorem dX9_bindsOne_24 : decode cX9_bindsOne 24 = .ok (.isub, 1) := by decide +kernel
theorem dX9_bindsOne_25 : decode cX9_bindsOne 25 = .ok (.imul, 1) := by decide +kernel
theorem dX9_bindsOne_26 : decode cX9_bindsOne 26 = .ok (.iadd, 1) := by decide +kernel
theorem dX9_bindsOne_27 : decode cX9_bindsOne 27 = .ok (.iconst 2, 1) := by decide +kernel
theorem dX9_bindsOne_28 : decode cX9_bindsOne 28 = .ok (.iconst 1, 1) := by decide +kernel
theorem dX9_bindsOne_29 : decode cX9_bindsOne 29 = .ok (.iload_n 2, 1) := by decide +kernel
theorem dX9_bindsOne_30 : decode cX9_bindsOne 30 = .ok (.isub, 1) := by decide +kernel
theorem dX9_bindsOne_31 : decode cX9_bindsOne 31 = .ok (.imul, 1) := by decide +kernel
theorem dX9_bindsOne_32 : decode cX9_bindsOne 32 = .ok (.iadd, 1) := by decide +kernel
theorem dX9_bindsOne_33 : decode cX9_bindsOne 33 = .ok (.istore_n 3, 1) := by decide +kernel
theorem dX9_bindsOne_34 : decode cX9_bindsOne 34 = .ok (.iload_n 3, 1) := by decide +kernel
theorem dX9_bindsOne_35 : decode cX9_bindsOne 35 = .ok (.aload_n 0, 1) := by decide +kernel
theorem dX9_bindsOne_36 : decode cX9_bindsOne 36 = .ok (.iconst 0, 1) := by decide +kernel
theorem dX9_bindsOne_37 : decode cX9_bindsOne 37 = .ok (.invokevirtual 171, 3) := by decide +kernel
theorem dX9_bindsOne_40 : decode cX9_bindsOne 40 = .ok (.if_icmp .le 5, 3) := by decide +kernel
theorem dX9_bindsOne_43 : decode cX9_bindsOne 43 = .ok (.iconst 0, 1) := by decide +kernel
theorem dX9_bindsOne_44 : decode cX9_bindsOne 44 = .ok (.ireturn, 1) := by decide +kernel
theorem dX9_bindsOne_45 : decode cX9_bindsOne 45 = .ok (.aload_n 0, 1) := by decide +kernel
theorem dX9_bindsOne_46 : decode cX9_bindsOne 46 = .ok (.iconst 0, 1) := by decide +kernel
theorem dX9_bindsOne_47 : decode cX9_bindsOne 47 = .ok (.aload_n 0, 1) := by decide +kernel
theorem dX9_bindsOne_48 : decode cX9_bindsOne 48 = .ok (.iconst 0, 1) := by decide +kernel
theorem dX9_bindsOne_49 : decode cX9_bindsOne 49 = .ok (.invokevirtual 171, 3) := by decide +kernel
theorem dX9_bindsOne_52 : decode cX9_bindsOne 52 = .ok (.iload_n 3, 1) := by decide +kernel
theorem dX9_bindsOne_53 : decode cX9_bindsOne 53 = .ok (.isub, 1) := by decide +kernel
theorem dX9_bindsOne_54 : decode cX9_bindsOne 54 = .ok (.invokevirtual 179, 3) := by decide +kernel
theorem dX9_bindsOne_57 : decode cX9_bindsOne 57 = .ok (.aload_n 0, 1) := by decide +kernel
theorem dX9_bindsOne_58 : decode cX9_bindsOne 58 = .ok (.iconst 1, 1) := by decide +kernel
theorem dX9_bindsOne_59 : decode cX9_bindsOne 59 = .ok (.aload_n 0, 1) := by decide +kernel
theorem dX9_bindsOne_60 : decode cX9_bindsOne 60 = .ok (.iconst 1, 1) := by decide +kernel
theorem dX9_bindsOne_61 : decode cX9_bindsOne 61 = .ok (.invokevirtual 171, 3) := by decide +kernel
theorem dX9_bindsOne_64 : decode cX9_bindsOne 64 = .ok (.iload_n 1, 1) := by decide +kernel
theorem dX9_bindsOne_65 : decode cX9_bindsOne 65 = .ok (.isub, 1) := by decide +kernel
theorem dX9_bindsOne_66 : decode cX9_bindsOne 66 = .ok (.invokevirtual 179, 3) := by decide +kernel
theorem dX9_bindsOne_69 : decode cX9_bindsOne 69 = .ok (.aload_n 0, 1) := by decide +kernel
theorem dX9_bindsOne_70 : decode cX9_bindsOne 70 = .ok (.iconst 2, 1) := by decide +kernel
theorem dX9_bindsOne_71 : decode cX9_bindsOne 71 = .ok (.aload_n 0, 1) := by decide +kernel
theorem dX9_bindsOne_72 : decode cX9_bindsOne 72 = .ok (.iconst 2, 1) := by decide +kernel
theorem dX9_bindsOne_73 : decode cX9_bindsOne 73 = .ok (.invokevirtual 171, 3) := by decide +kernel
theorem dX9_bindsOne_76 : decode cX9_bindsOne 76 = .ok (.iload_n 2, 1) := by decide +kernel
theorem dX9_bindsOne_77 : decode cX9_bindsOne 77 = .ok (.isub, 1) := by decide +kernel
theorem dX9_bindsOne_78 : decode cX9_bindsOne 78 = .ok (.invokevirtual 179, 3) := by decide +kernel
theorem dX9_bindsOne_81 : decode cX9_bindsOne 81 = .ok (.iconst 1, 1) := by decide +kernel
theorem dX9_bindsOne_82 : decode cX9_bindsOne 82 = .ok (.ireturn, 1) := by decide +kernel
theorem dX9_lotInRow_0 : decode cX9_lotInRow 0 = .ok (.iload_n 1, 1) := by decide +kernel
theorem dX9_lotInRow_1 : decode cX9_lotInRow 1 = .ok (.ifCond .lt 14, 3) := by decide +kernel
theorem dX9_lotInRow_4 : decode cX9_lotInRow 4 = .ok (.iload_n 1, 1) := by decide +kernel
theorem dX9_lotInRow_5 : decode cX9_lotInRow 5 = .ok (.aload_n 0, 1) := by decide +kernel
theorem dX9_lotInRow_6 : decode cX9_lotInRow 6 = .ok (.getfield 22, 3) := by decide +kernel
theorem dX9_lotInRow_9 : decode cX9_lotInRow 9 = .ok (.invokevirtual 63, 3) := by decide +kernel
theorem dX9_lotInRow_12 : decode cX9_lotInRow 12 = .ok (.if_icmp .lt 5, 3) := by decide +kernel
theorem dX9_lotInRow_15 : decode cX9_lotInRow 15 = .ok (.iconst (-1), 1) := by decide +kernel
theorem dX9_lotInRow_16 : decode cX9_lotInRow 16 = .ok (.ireturn, 1) := by decide +kernel
theorem dX9_lotInRow_17 : decode cX9_lotInRow 17 = .ok (.aload_n 0, 1) := by decide +kernel
theorem dX9_lotInRow_18 : decode cX9_lotInRow 18 = .ok (.getfield 22, 3) := by decide +kernel
theorem dX9_lotInRow_21 : decode cX9_lotInRow 21 = .ok (.iload_n 1, 1) := by decide +kernel
theorem dX9_lotInRow_22 : decode cX9_lotInRow 22 = .ok (.invokevirtual 279, 3) := by decide +kernel
theorem dX9_lotInRow_25 : decode cX9_lotInRow 25 = .ok (.checkcast 129, 3) := by decide +kernel
theorem dX9_lotInRow_28 : decode cX9_lotInRow 28 = .ok (.getfield 137, 3) := by decide +kernel
theorem dX9_lotInRow_31 : decode cX9_lotInRow 31 = .ok (.ireturn, 1) := by decide +kernel
theorem dX9_leastLifeOnRail_0 : decode cX9_leastLifeOnRail 0 = .ok (.aload_n 0, 1) := by decide +kernel
theorem dX9_leastLifeOnRail_1 : decode cX9_leastLifeOnRail 1 = .ok (.getfield 31, 3) := by decide +kernel
theorem dX9_leastLifeOnRail_4 : decode cX9_leastLifeOnRail 4 = .ok (.invokevirtual 237, 3) := by decide +kernel
theorem dX9_leastLifeOnRail_7 : decode cX9_leastLifeOnRail 7 = .ok (.ifCond .eq 5, 3) := by decide +kernel
theorem dX9_leastLifeOnRail_10 : decode cX9_leastLifeOnRail 10 = .ok (.iconst (-1), 1) := by decide +kernel
theorem dX9_leastLifeOnRail_11 : decode cX9_leastLifeOnRail 11 = .ok (.ireturn, 1) := by decide +kernel
theorem dX9_leastLifeOnRail_12 : decode cX9_leastLifeOnRail 12 = .ok (.bipush 110, 2) := by decide +kernel
theorem dX9_leastLifeOnRail_14 : decode cX9_leastLifeOnRail 14 = .ok (.istore_n 1, 1) := by decide +kernel
theorem dX9_leastLifeOnRail_15 : decode cX9_leastLifeOnRail 15 = .ok (.iconst 0, 1) := by decide +kernel
theorem dX9_leastLifeOnRail_16 : decode cX9_leastLifeOnRail 16 = .ok (.istore_n 2, 1) := by decide +kernel
theorem dX9_leastLifeOnRail_17 : decode cX9_leastLifeOnRail 17 = .ok (.iload_n 2, 1) := by decide +kernel
theorem dX9_leastLifeOnRail_18 : decode cX9_leastLifeOnRail 18 = .ok (.aload_n 0, 1) := by decide +kernel
theorem dX9_leastLifeOnRail_19 : decode cX9_leastLifeOnRail 19 = .ok (.getfield 31, 3) := by decide +kernel
theorem dX9_leastLifeOnRail_22 : decode cX9_leastLifeOnRail 22 = .ok (.invokevirtual 63, 3) := by decide +kernel
theorem dX9_leastLifeOnRail_25 : decode cX9_leastLifeOnRail 25 = .ok (.if_icmp .ge 28, 3) := by decide +kernel
theorem dX9_leastLifeOnRail_28 : decode cX9_leastLifeOnRail 28 = .ok (.iload_n 1, 1) := by decide +kernel
theorem dX9_leastLifeOnRail_29 : decode cX9_leastLifeOnRail 29 = .ok (.aload_n 0, 1) := by decide +kernel
theorem dX9_leastLifeOnRail_30 : decode cX9_leastLifeOnRail 30 = .ok (.getfield 31, 3) := by decide +kernel
theorem dX9_leastLifeOnRail_33 : decode cX9_leastLifeOnRail 33 = .ok (.iload_n 2, 1) := by decide +kernel
theorem dX9_leastLifeOnRail_34 : decode cX9_leastLifeOnRail 34 = .ok (.invokevirtual 279, 3) := by decide +kernel
theorem dX9_leastLifeOnRail_37 : decode cX9_leastLifeOnRail 37 = .ok (.checkcast 440, 3) := by decide +kernel
theorem dX9_leastLifeOnRail_40 : decode cX9_leastLifeOnRail 40 = .ok (.getfield 442, 3) := by decide +kernel
theorem dX9_leastLifeOnRail_43 : decode cX9_leastLifeOnRail 43 = .ok (.invokestatic 203, 3) := by decide +kernel
theorem dX9_leastLifeOnRail_46 : decode cX9_leastLifeOnRail 46 = .ok (.istore_n 1, 1) := by decide +kernel
theorem dX9_leastLifeOnRail_47 : decode cX9_leastLifeOnRail 47 = .ok (.iinc 2 1, 3) := by decide +kernel
theorem dX9_leastLifeOnRail_50 : decode cX9_leastLifeOnRail 50 = .ok (.goto (-33), 3) := by decide +kernel
theorem dX9_leastLifeOnRail_53 : decode cX9_leastLifeOnRail 53 = .ok (.iload_n 1, 1) := by decide +kernel
theorem dX9_leastLifeOnRail_54 : decode cX9_leastLifeOnRail 54 = .ok (.ireturn, 1) := by decide +kernel
theorem dX9_numberOfHall_0 : decode cX9_numberOfHall 0 = .ok (.iload_n 1, 1) := by decide +kernel
theorem dX9_numberOfHall_1 : decode cX9_numberOfHall 1 = .ok (.tableswitch 165 0 15 #[79, 84, 92, 100, 108, 116, 124, 132, 140, 145, 150, 155, 165, 165, 165, 160], 79) := by decide +kernel
theorem dX9_numberOfHall_80 : decode cX9_numberOfHall 80 = .ok (.aload_n 0, 1) := by decide +kernel
theorem dX9_numberOfHall_81 : decode cX9_numberOfHall 81 = .ok (.getfield 287, 3) := by decide +kernel
theorem dX9_numberOfHall_84 : decode cX9_numberOfHall 84 = .ok (.ireturn, 1) := by decide +kernel
theorem dX9_numberOfHall_85 : decode cX9_numberOfHall 85 = .ok (.aload_n 0, 1) := by decide +kernel
theorem dX9_numberOfHall_86 : decode cX9_numberOfHall 86 = .ok (.getfield 10, 3) := by decide +kernel
theorem dX9_numberOfHall_89 : decode cX9_numberOfHall 89 = .ok (.invokevirtual 63, 3) := by decide +kernel
theorem dX9_numberOfHall_92 : decode cX9_numberOfHall 92 = .ok (.ireturn, 1) := by decide +kernel
theorem dX9_numberOfHall_93 : decode cX9_numberOfHall 93 = .ok (.aload_n 0, 1) := by decide +kernel
theorem dX9_numberOfHall_94 : decode cX9_numberOfHall 94 = .ok (.getfield 16, 3) := by decide +kernel
theorem dX9_numberOfHall_97 : decode cX9_numberOfHall 97 = .ok (.invokevirtual 63, 3) := by decide +kernel
theorem dX9_numberOfHall_100 : decode cX9_numberOfHall 100 = .ok (.ireturn, 1) := by decide +kernel
theorem dX9_numberOfHall_101 : decode cX9_numberOfHall 101 = .ok (.aload_n 0, 1) := by decide +kernel
theorem dX9_numberOfHall_102 : decode cX9_numberOfHall 102 = .ok (.getfield 19, 3) := by decide +kernel
theorem dX9_numberOfHall_105 : decode cX9_numberOfHall 105 = .ok (.invokevirtual 63, 3) := by decide +kernel
theorem dX9_numberOfHall_108 : decode cX9_numberOfHall 108 = .ok (.ireturn, 1) := by decide +kernel
theorem dX9_numberOfHall_109 : decode cX9_numberOfHall 109 = .ok (.aload_n 0, 1) := by decide +kernel
theorem dX9_numberOfHall_110 : decode cX9_numberOfHall 110 = .ok (.getfield 25, 3) := by decide +kernel
theorem dX9_numberOfHall_113 : decode cX9_numberOfHall 113 = .ok (.invokevirtual 63, 3) := by decide +kernel
theorem dX9_numberOfHall_116 : decode cX9_numberOfHall 116 = .ok (.ireturn, 1) := by decide +kernel
theorem dX9_numberOfHall_117 : decode cX9_numberOfHall 117 = .ok (.aload_n 0, 1) := by decide +kernel
theorem dX9_numberOfHall_118 : decode cX9_numberOfHall 118 = .ok (.getfield 28, 3) := by decide +kernel
theorem dX9_numberOfHall_121 : decode cX9_numberOfHall 121 = .ok (.invokevirtual 63, 3) := by decide +kernel
theorem dX9_numberOfHall_124 : decode cX9_numberOfHall 124 = .ok (.ireturn, 1) := by decide +kernel
theorem dX9_numberOfHall_125 : decode cX9_numberOfHall 125 = .ok (.aload_n 0, 1) := by decide +kernel
theorem dX9_numberOfHall_126 : decode cX9_numberOfHall 126 = .ok (.getfield 22, 3) := by decide +kernel
theorem dX9_numberOfHall_129 : decode cX9_numberOfHall 129 = .ok (.invokevirtual 63, 3) := by decide +kernel
theorem dX9_numberOfHall_132 : decode cX9_numberOfHall 132 = .ok (.ireturn, 1) := by decide +kernel
theorem dX9_numberOfHall_133 : decode cX9_numberOfHall 133 = .ok (.aload_n 0, 1) := by decide +kernel
theorem dX9_numberOfHall_134 : decode cX9_numberOfHall 134 = .ok (.getfield 31, 3) := by decide +kernel
theorem dX9_numberOfHall_137 : decode cX9_numberOfHall 137 = .ok (.invokevirtual 63, 3) := by decide +kernel
theorem dX9_numberOfHall_140 : decode cX9_numberOfHall 140 = .ok (.ireturn, 1) := by decide +kernel
theorem dX9_numberOfHall_141 : decode cX9_numberOfHall 141 = .ok (.aload_n 0, 1) := by decide +kernel
theorem dX9_numberOfHall_142 : decode cX9_numberOfHall 142 = .ok (.getfield 57, 3) := by decide +kernel
theorem dX9_numberOfHall_145 : decode cX9_numberOfHall 145 = .ok (.ireturn, 1) := by decide +kernel
theorem dX9_numberOfHall_146 : decode cX9_numberOfHall 146 = .ok (.aload_n 0, 1) := by decide +kernel
theorem dX9_numberOfHall_147 : decode cX9_numberOfHall 147 = .ok (.getfield 320, 3) := by decide +kernel
theorem dX9_numberOfHall_150 : decode cX9_numberOfHall 150 = .ok (.ireturn, 1) := by decide +kernel
theorem dX9_numberOfHall_151 : decode cX9_numberOfHall 151 = .ok (.aload_n 0, 1) := by decide +kernel
theorem dX9_numberOfHall_152 : decode cX9_numberOfHall 152 = .ok (.getfield 325, 3) := by decide +kernel
theorem dX9_numberOfHall_155 : decode cX9_numberOfHall 155 = .ok (.ireturn, 1) := by decide +kernel
theorem dX9_numberOfHall_156 : decode cX9_numberOfHall 156 = .ok (.aload_n 0, 1) := by decide +kernel
theorem dX9_numberOfHall_157 : decode cX9_numberOfHall 157 = .ok (.getfield 370, 3) := by decide +kernel
theorem dX9_numberOfHall_160 : decode cX9_numberOfHall 160 = .ok (.ireturn, 1) := by decide +kernel
theorem dX9_numberOfHall_161 : decode cX9_numberOfHall 161 = .ok (.aload_n 0, 1) := by decide +kernel
theorem dX9_numberOfHall_162 : decode cX9_numberOfHall 162 = .ok (.invokevirtual 468, 3) := by decide +kernel
theorem dX9_numberOfHall_165 : decode cX9_numberOfHall 165 = .ok (.ireturn, 1) := by decide +kernel
theorem dX9_numberOfHall_166 : decode cX9_numberOfHall 166 = .ok (.aload_n 0, 1) := by decide +kernel
theorem dX9_numberOfHall_167 : decode cX9_numberOfHall 167 = .ok (.getfield 42, 3) := by decide +kernel
theorem dX9_numberOfHall_170 : decode cX9_numberOfHall 170 = .ok (.iload_n 1, 1) := by decide +kernel
theorem dX9_numberOfHall_171 : decode cX9_numberOfHall 171 = .ok (.bipush 12, 2) := by decide +kernel
theorem dX9_numberOfHall_173 : decode cX9_numberOfHall 173 = .ok (.isub, 1) := by decide +kernel
theorem dX9_numberOfHall_174 : decode cX9_numberOfHall 174 = .ok (.invokevirtual 171, 3) := by decide +kernel
theorem dX9_numberOfHall_177 : decode cX9_numberOfHall 177 = .ok (.ireturn, 1) := by decide +kernel
theorem dX9_firstPriceOf_0 : decode cX9_firstPriceOf 0 = .ok (.aload_n 0, 1) := by decide +kernel
theorem dX9_firstPriceOf_1 : decode cX9_firstPriceOf 1 = .ok (.getfield 49, 3) := by decide +kernel
theorem dX9_firstPriceOf_4 : decode cX9_firstPriceOf 4 = .ok (.aload_n 1, 1) := by decide +kernel
theorem dX9_firstPriceOf_5 : decode cX9_firstPriceOf 5 = .ok (.aload_n 1, 1) := by decide +kernel
theorem dX9_firstPriceOf_6 : decode cX9_firstPriceOf 6 = .ok (.getfield 191, 3) := by decide +kernel
theorem dX9_firstPriceOf_9 : decode cX9_firstPriceOf 9 = .ok (.iconst 1, 1) := by decide +kernel
theorem dX9_firstPriceOf_10 : decode cX9_firstPriceOf 10 = .ok (.aload_n 0, 1) := by decide +kernel
theorem dX9_firstPriceOf_11 : decode cX9_firstPriceOf 11 = .ok (.getfield 25, 3) := by decide +kernel
theorem dX9_firstPriceOf_14 : decode cX9_firstPriceOf 14 = .ok (.aload_n 0, 1) := by decide +kernel
theorem dX9_firstPriceOf_15 : decode cX9_firstPriceOf 15 = .ok (.getfield 28, 3) := by decide +kernel
theorem dX9_firstPriceOf_18 : decode cX9_firstPriceOf 18 = .ok (.invokevirtual 247, 3) := by decide +kernel
theorem dX9_firstPriceOf_21 : decode cX9_firstPriceOf 21 = .ok (.aload_n 0, 1) := by decide +kernel
theorem dX9_firstPriceOf_22 : decode cX9_firstPriceOf 22 = .ok (.getfield 49, 3) := by decide +kernel
theorem dX9_firstPriceOf_25 : decode cX9_firstPriceOf 25 = .ok (.aload_n 0, 1) := by decide +kernel
theorem dX9_firstPriceOf_26 : decode cX9_firstPriceOf 26 = .ok (.getfield 28, 3) := by decide +kernel
theorem dX9_firstPriceOf_29 : decode cX9_firstPriceOf 29 = .ok (.invokevirtual 251, 3) := by decide +kernel
theorem dX9_firstPriceOf_32 : decode cX9_firstPriceOf 32 = .ok (.ifnonnull 7, 3) := by decide +kernel
theorem dX9_firstPriceOf_35 : decode cX9_firstPriceOf 35 = .ok (.iconst (-1), 1) := by decide +kernel
theorem dX9_firstPriceOf_36 : decode cX9_firstPriceOf 36 = .ok (.goto 10, 3) := by decide +kernel
theorem dX9_firstPriceOf_39 : decode cX9_firstPriceOf 39 = .ok (.aload_n 0, 1) := by decide +kernel
theorem dX9_firstPriceOf_40 : decode cX9_firstPriceOf 40 = .ok (.getfield 49, 3) := by decide +kernel
theorem dX9_firstPriceOf_43 : decode cX9_firstPriceOf 43 = .ok (.getfield 260, 3) := by decide +kernel
theorem dX9_firstPriceOf_46 : decode cX9_firstPriceOf 46 = .ok (.ireturn, 1) := by decide +kernel
theorem dX9_lowestPriceOf_0 : decode cX9_lowestPriceOf 0 = .ok (.bipush 99, 2) := by decide +kernel
theorem dX9_lowestPriceOf_2 : decode cX9_lowestPriceOf 2 = .ok (.istore_n 2, 1) := by decide +kernel
theorem dX9_lowestPriceOf_3 : decode cX9_lowestPriceOf 3 = .ok (.aload_n 0, 1) := by decide +kernel
theorem dX9_lowestPriceOf_4 : decode cX9_lowestPriceOf 4 = .ok (.getfield 49, 3) := by decide +kernel
theorem dX9_lowestPriceOf_7 : decode cX9_lowestPriceOf 7 = .ok (.aload_n 1, 1) := by decide +kernel
theorem dX9_lowestPriceOf_8 : decode cX9_lowestPriceOf 8 = .ok (.aload_n 1, 1) := by decide +kernel
theorem dX9_lowestPriceOf_9 : decode cX9_lowestPriceOf 9 = .ok (.getfield 191, 3) := by decide +kernel
theorem dX9_lowestPriceOf_12 : decode cX9_lowestPriceOf 12 = .ok (.iconst 1, 1) := by decide +kernel
theorem dX9_lowestPriceOf_13 : decode cX9_lowestPriceOf 13 = .ok (.aload_n 0, 1) := by decide +kernel
theorem dX9_lowestPriceOf_14 : decode cX9_lowestPriceOf 14 = .ok (.getfield 25, 3) := by decide +kernel
theorem dX9_lowestPriceOf_17 : decode cX9_lowestPriceOf 17 = .ok (.aload_n 0, 1) := by decide +kernel
theorem dX9_lowestPriceOf_18 : decode cX9_lowestPriceOf 18 = .ok (.getfield 28, 3) := by decide +kernel
theorem dX9_lowestPriceOf_21 : decode cX9_lowestPriceOf 21 = .ok (.invokevirtual 247, 3) := by decide +kernel
theorem dX9_lowestPriceOf_24 : decode cX9_lowestPriceOf 24 = .ok (.iconst 0, 1) := by decide +kernel
theorem dX9_lowestPriceOf_25 : decode cX9_lowestPriceOf 25 = .ok (.istore_n 3, 1) := by decide +kernel
theorem dX9_lowestPriceOf_26 : decode cX9_lowestPriceOf 26 = .ok (.iload_n 3, 1) := by decide +kernel
theorem dX9_lowestPriceOf_27 : decode cX9_lowestPriceOf 27 = .ok (.sipush 200, 3) := by decide +kernel
theorem dX9_lowestPriceOf_30 : decode cX9_lowestPriceOf 30 = .ok (.if_icmp .ge 35, 3) := by decide +kernel
theorem dX9_lowestPriceOf_33 : decode cX9_lowestPriceOf 33 = .ok (.aload_n 0, 1) := by decide +kernel
theorem dX9_lowestPriceOf_34 : decode cX9_lowestPriceOf 34 = .ok (.getfield 49, 3) := by decide +kernel
theorem dX9_lowestPriceOf_37 : decode cX9_lowestPriceOf 37 = .ok (.aload_n 0, 1) := by decide +kernel
theorem dX9_lowestPriceOf_38 : decode cX9_lowestPriceOf 38 = .ok (.getfield 28, 3) := by decide +kernel
theorem dX9_lowestPriceOf_41 : decode cX9_lowestPriceOf 41 = .ok (.invokevirtual 251, 3) := by decide +kernel
theorem dX9_lowestPriceOf_44 : decode cX9_lowestPriceOf 44 = .ok (.ifnull 21, 3) := by decide +kernel
theorem dX9_lowestPriceOf_47 : decode cX9_lowestPriceOf 47 = .ok (.iload_n 2, 1) := by decide +kernel
theorem dX9_lowestPriceOf_48 : decode cX9_lowestPriceOf 48 = .ok (.aload_n 0, 1) := by decide +kernel
theorem dX9_lowestPriceOf_49 : decode cX9_lowestPriceOf 49 = .ok (.getfield 49, 3) := by decide +kernel
theorem dX9_lowestPriceOf_52 : decode cX9_lowestPriceOf 52 = .ok (.getfield 260, 3) := by decide +kernel
theorem dX9_lowestPriceOf_55 : decode cX9_lowestPriceOf 55 = .ok (.invokestatic 203, 3) := by decide +kernel
theorem dX9_lowestPriceOf_58 : decode cX9_lowestPriceOf 58 = .ok (.istore_n 2, 1) := by decide +kernel
theorem dX9_lowestPriceOf_59 : decode cX9_lowestPriceOf 59 = .ok (.iinc 3 1, 3) := by decide +kernel
theorem dX9_lowestPriceOf_62 : decode cX9_lowestPriceOf 62 = .ok (.goto (-36), 3) := by decide +kernel
theorem dX9_lowestPriceOf_65 : decode cX9_lowestPriceOf 65 = .ok (.iload_n 2, 1) := by decide +kernel
theorem dX9_lowestPriceOf_66 : decode cX9_lowestPriceOf 66 = .ok (.ireturn, 1) := by decide +kernel
theorem dX9_hoursUntilReady_0 : decode cX9_hoursUntilReady 0 = .ok (.aload_n 1, 1) := by decide +kernel
theorem dX9_hoursUntilReady_1 : decode cX9_hoursUntilReady 1 = .ok (.getfield 116, 3) := by decide +kernel
theorem dX9_hoursUntilReady_4 : decode cX9_hoursUntilReady 4 = .ok (.ifCond .eq 5, 3) := by decide +kernel
theorem dX9_hoursUntilReady_7 : decode cX9_hoursUntilReady 7 = .ok (.iconst 0, 1) := by decide +kernel
theorem dX9_hoursUntilReady_8 : decode cX9_hoursUntilReady 8 = .ok (.ireturn, 1) := by decide +kernel
theorem dX9_hoursUntilReady_9 : decode cX9_hoursUntilReady 9 = .ok (.aload_n 0, 1) := by decide +kernel
theorem dX9_hoursUntilReady_10 : decode cX9_hoursUntilReady 10 = .ok (.getfield 53, 3) := by decide +kernel
theorem dX9_hoursUntilReady_13 : decode cX9_hoursUntilReady 13 = .ok (.aload_n 1, 1) := by decide +kernel
theorem dX9_hoursUntilReady_14 : decode cX9_hoursUntilReady 14 = .ok (.getfield 432, 3) := by decide +kernel
theorem dX9_hoursUntilReady_17 : decode cX9_hoursUntilReady 17 = .ok (.getfield 94, 3) := by decide +kernel
theorem dX9_hoursUntilReady_20 : decode cX9_hoursUntilReady 20 = .ok (.iadd, 1) := by decide +kernel
theorem dX9_hoursUntilReady_21 : decode cX9_hoursUntilReady 21 = .ok (.istore_n 2, 1) := by decide +kernel
theorem dX9_hoursUntilReady_22 : decode cX9_hoursUntilReady 22 = .ok (.iload_n 2, 1) := by decide +kernel
theorem dX9_hoursUntilReady_23 : decode cX9_hoursUntilReady 23 = .ok (.iconst 1, 1) := by decide +kernel
theorem dX9_hoursUntilReady_24 : decode cX9_hoursUntilReady 24 = .ok (.if_icmp .ge 5, 3) := by decide +kernel
theorem dX9_hoursUntilReady_27 : decode cX9_hoursUntilReady 27 = .ok (.iconst (-1), 1) := by decide +kernel
theorem dX9_hoursUntilReady_28 : decode cX9_hoursUntilReady 28 = .ok (.ireturn, 1) := by decide +kernel
theorem dX9_hoursUntilReady_29 : decode cX9_hoursUntilReady 29 = .ok (.aload_n 1, 1) := by decide +kernel
theorem dX9_hoursUntilReady_30 : decode cX9_hoursUntilReady 30 = .ok (.getfield 471, 3) := by decide +kernel
theorem dX9_hoursUntilReady_33 : decode cX9_hoursUntilReady 33 = .ok (.invokestatic 472, 3) := by decide +kernel
theorem dX9_hoursUntilReady_36 : decode cX9_hoursUntilReady 36 = .ok (.aload_n 1, 1) := by decide +kernel
theorem dX9_hoursUntilReady_37 : decode cX9_hoursUntilReady 37 = .ok (.getfield 475, 3) := by decide +kernel
theorem dX9_hoursUntilReady_40 : decode cX9_hoursUntilReady 40 = .ok (.isub, 1) := by decide +kernel
theorem dX9_hoursUntilReady_41 : decode cX9_hoursUntilReady 41 = .ok (.iload_n 2, 1) := by decide +kernel
theorem dX9_hoursUntilReady_42 : decode cX9_hoursUntilReady 42 = .ok (.iadd, 1) := by decide +kernel
theorem dX9_hoursUntilReady_43 : decode cX9_hoursUntilReady 43 = .ok (.iconst 1, 1) := by decide +kernel
theorem dX9_hoursUntilReady_44 : decode cX9_hoursUntilReady 44 = .ok (.isub, 1) := by decide +kernel
theorem dX9_hoursUntilReady_45 : decode cX9_hoursUntilReady 45 = .ok (.iload_n 2, 1) := by decide +kernel
theorem dX9_hoursUntilReady_46 : decode cX9_hoursUntilReady 46 = .ok (.idiv, 1) := by decide +kernel
theorem dX9_hoursUntilReady_47 : decode cX9_hoursUntilReady 47 = .ok (.ireturn, 1) := by decide +kernel
theorem dX9_fewestLamps_0 : decode cX9_fewestLamps 0 = .ok (.iconst 0, 1) := by decide +kernel
theorem dX9_fewestLamps_1 : decode cX9_fewestLamps 1 = .ok (.istore_n 3, 1) := by decide +kernel
theorem dX9_fewestLamps_2 : decode cX9_fewestLamps 2 = .ok (.iload_n 3, 1) := by decide +kernel
theorem dX9_fewestLamps_3 : decode cX9_fewestLamps 3 = .ok (.iconst 3, 1) := by decide +kernel
theorem dX9_fewestLamps_4 : decode cX9_fewestLamps 4 = .ok (.if_icmp .gt 26, 3) := by decide +kernel
theorem dX9_fewestLamps_7 : decode cX9_fewestLamps 7 = .ok (.aload_n 0, 1) := by decide +kernel
theorem dX9_fewestLamps_8 : decode cX9_fewestLamps 8 = .ok (.getfield 53, 3) := by decide +kernel
theorem dX9_fewestLamps_11 : decode cX9_fewestLamps 11 = .ok (.iload_n 3, 1) := by decide +kernel
theorem dX9_fewestLamps_12 : decode cX9_fewestLamps 12 = .ok (.iadd, 1) := by decide +kernel
theorem dX9_fewestLamps_13 : decode cX9_fewestLamps 13 = .ok (.iload_n 2, 1) := by decide +kernel
theorem dX9_fewestLamps_14 : decode cX9_fewestLamps 14 = .ok (.imul, 1) := by decide +kernel
theorem dX9_fewestLamps_15 : decode cX9_fewestLamps 15 = .ok (.iload_n 1, 1) := by decide +kernel
theorem dX9_fewestLamps_16 : decode cX9_fewestLamps 16 = .ok (.invokestatic 472, 3) := by decide +kernel
theorem dX9_fewestLamps_19 : decode cX9_fewestLamps 19 = .ok (.if_icmp .lt 5, 3) := by decide +kernel
theorem dX9_fewestLamps_22 : decode cX9_fewestLamps 22 = .ok (.iload_n 3, 1) := by decide +kernel
theorem dX9_fewestLamps_23 : decode cX9_fewestLamps 23 = .ok (.ireturn, 1) := by decide +kernel
theorem dX9_fewestLamps_24 : decode cX9_fewestLamps 24 = .ok (.iinc 3 1, 3) := by decide +kernel
theorem dX9_fewestLamps_27 : decode cX9_fewestLamps 27 = .ok (.goto (-25), 3) := by decide +kernel
theorem dX9_fewestLamps_30 : decode cX9_fewestLamps 30 = .ok (.iconst (-1), 1) := by decide +kernel
theorem dX9_fewestLamps_31 : decode cX9_fewestLamps 31 = .ok (.ireturn, 1) := by decide +kernel
theorem dX9_sumAsked_0 : decode cX9_sumAsked 0 = .ok (.iload_n 0, 1) := by decide +kernel
theorem dX9_sumAsked_1 : decode cX9_sumAsked 1 = .ok (.lookupswitch 33 #[(0, 27), (1, 30)], 27) := by decide +kernel
theorem dX9_sumAsked_28 : decode cX9_sumAsked 28 = .ok (.bipush 60, 2) := by decide +kernel
theorem dX9_sumAsked_30 : decode cX9_sumAsked 30 = .ok (.ireturn, 1) := by decide +kernel
theorem dX9_sumAsked_31 : decode cX9_sumAsked 31 = .ok (.bipush 90, 2) := by decide +kernel
theorem dX9_sumAsked_33 : decode cX9_sumAsked 33 = .ok (.ireturn, 1) := by decide +kernel
theorem dX9_sumAsked_34 : decode cX9_sumAsked 34 = .ok (.bipush 120, 2) := by decide +kernel
theorem dX9_sumAsked_36 : decode cX9_sumAsked 36 = .ok (.ireturn, 1) := by decide +kernel
theorem dX9_freshLife_0 : decode cX9_freshLife 0 = .ok (.iload_n 0, 1) := by decide +kernel
theorem dX9_freshLife_1 : decode cX9_freshLife 1 = .ok (.lookupswitch 33 #[(0, 27), (1, 30)], 27) := by decide +kernel
theorem dX9_freshLife_28 : decode cX9_freshLife 28 = .ok (.bipush 90, 2) := by decide +kernel
theorem dX9_freshLife_30 : decode cX9_freshLife 30 = .ok (.ireturn, 1) := by decide +kernel
theorem dX9_freshLife_31 : decode cX9_freshLife 31 = .ok (.bipush 70, 2) := by decide +kernel
theorem dX9_freshLife_33 : decode cX9_freshLife 33 = .ok (.ireturn, 1) := by decide +kernel
theorem dX9_freshLife_34 : decode cX9_freshLife 34 = .ok (.bipush 110, 2) := by decide +kernel
theorem dX9_freshLife_36 : decode cX9_freshLife 36 = .ok (.ireturn, 1) := by decide +kernel
theorem dX9_mixed_0 : decode cX9_mixed 0 = .ok (.lload_n 0, 1) := by decide +kernel
theorem dX9_mixed_1 : decode cX9_mixed 1 = .ok (.ldc2_w 478, 3) := by decide +kernel
theorem dX9_mixed_4 : decode cX9_mixed 4 = .ok (.lmul, 1) := by decide +kernel
theorem dX9_mixed_5 : decode cX9_mixed 5 = .ok (.lload_n 2, 1) := by decide +kernel
theorem dX9_mixed_6 : decode cX9_mixed 6 = .ok (.ladd, 1) := by decide +kernel
theorem dX9_mixed_7 : decode cX9_mixed 7 = .ok (.lreturn, 1) := by decide +kernel
theorem dX9_mixedWithGrowing_0 : decode cX9_mixedWithGrowing 0 = .ok (.lload_n 1, 1) := by decide +kernel
theorem dX9_mixedWithGrowing_1 : decode cX9_mixedWithGrowing 1 = .ok (.lstore_n 3, 1) := by decide +kernel
theorem dX9_mixedWithGrowing_2 : decode cX9_mixedWithGrowing 2 = .ok (.iconst 0, 1) := by decide +kernel
theorem dX9_mixedWithGrowing_3 : decode cX9_mixedWithGrowing 3 = .ok (.istore 5, 2) := by decide +kernel
theorem dX9_mixedWithGrowing_5 : decode cX9_mixedWithGrowing 5 = .ok (.iload 5, 2) := by decide +kernel
theorem dX9_mixedWithGrowing_7 : decode cX9_mixedWithGrowing 7 = .ok (.aload_n 0, 1) := by decide +kernel
theorem dX9_mixedWithGrowing_8 : decode cX9_mixedWithGrowing 8 = .ok (.getfield 10, 3) := by decide +kernel
theorem dX9_mixedWithGrowing_11 : decode cX9_mixedWithGrowing 11 = .ok (.invokevirtual 63, 3) := by decide +kernel
theorem dX9_mixedWithGrowing_14 : decode cX9_mixedWithGrowing 14 = .ok (.if_icmp .ge 47, 3) := by decide +kernel
theorem dX9_mixedWithGrowing_17 : decode cX9_mixedWithGrowing 17 = .ok (.iconst 0, 1) := by decide +kernel
theorem dX9_mixedWithGrowing_18 : decode cX9_mixedWithGrowing 18 = .ok (.istore 6, 2) := by decide +kernel
theorem dX9_mixedWithGrowing_20 : decode cX9_mixedWithGrowing 20 = .ok (.iload 6, 2) := by decide +kernel
theorem dX9_mixedWithGrowing_22 : decode cX9_mixedWithGrowing 22 = .ok (.iconst 4, 1) := by decide +kernel
theorem dX9_mixedWithGrowing_23 : decode cX9_mixedWithGrowing 23 = .ok (.if_icmp .gt 32, 3) := by decide +kernel
theorem dX9_mixedWithGrowing_26 : decode cX9_mixedWithGrowing 26 = .ok (.lload_n 3, 1) := by decide +kernel
theorem dX9_mixedWithGrowing_27 : decode cX9_mixedWithGrowing 27 = .ok (.aload_n 0, 1) := by decide +kernel
theorem dX9_mixedWithGrowing_28 : decode cX9_mixedWithGrowing 28 = .ok (.getfield 10, 3) := by decide +kernel
theorem dX9_mixedWithGrowing_31 : decode cX9_mixedWithGrowing 31 = .ok (.iload 5, 2) := by decide +kernel
theorem dX9_mixedWithGrowing_33 : decode cX9_mixedWithGrowing 33 = .ok (.invokevirtual 279, 3) := by decide +kernel
theorem dX9_mixedWithGrowing_36 : decode cX9_mixedWithGrowing 36 = .ok (.checkcast 74, 3) := by decide +kernel
theorem dX9_mixedWithGrowing_39 : decode cX9_mixedWithGrowing 39 = .ok (.iload 6, 2) := by decide +kernel
theorem dX9_mixedWithGrowing_41 : decode cX9_mixedWithGrowing 41 = .ok (.invokevirtual 348, 3) := by decide +kernel
theorem dX9_mixedWithGrowing_44 : decode cX9_mixedWithGrowing 44 = .ok (.i2l, 1) := by decide +kernel
theorem dX9_mixedWithGrowing_45 : decode cX9_mixedWithGrowing 45 = .ok (.invokestatic 392, 3) := by decide +kernel
theorem dX9_mixedWithGrowing_48 : decode cX9_mixedWithGrowing 48 = .ok (.lstore_n 3, 1) := by decide +kernel
theorem dX9_mixedWithGrowing_49 : decode cX9_mixedWithGrowing 49 = .ok (.iinc 6 1, 3) := by decide +kernel
theorem dX9_mixedWithGrowing_52 : decode cX9_mixedWithGrowing 52 = .ok (.goto (-32), 3) := by decide +kernel
theorem dX9_mixedWithGrowing_55 : decode cX9_mixedWithGrowing 55 = .ok (.iinc 5 1, 3) := by decide +kernel
theorem dX9_mixedWithGrowing_58 : decode cX9_mixedWithGrowing 58 = .ok (.goto (-53), 3) := by decide +kernel
theorem dX9_mixedWithGrowing_61 : decode cX9_mixedWithGrowing 61 = .ok (.iconst 0, 1) := by decide +kernel
theorem dX9_mixedWithGrowing_62 : decode cX9_mixedWithGrowing 62 = .ok (.istore 5, 2) := by decide +kernel
theorem dX9_mixedWithGrowing_64 : decode cX9_mixedWithGrowing 64 = .ok (.iload 5, 2) := by decide +kernel
theorem dX9_mixedWithGrowing_66 : decode cX9_mixedWithGrowing 66 = .ok (.aload_n 0, 1) := by decide +kernel
theorem dX9_mixedWithGrowing_67 : decode cX9_mixedWithGrowing 67 = .ok (.getfield 16, 3) := by decide +kernel
theorem dX9_mixedWithGrowing_70 : decode cX9_mixedWithGrowing 70 = .ok (.invokevirtual 63, 3) := by decide +kernel
theorem dX9_mixedWithGrowing_73 : decode cX9_mixedWithGrowing 73 = .ok (.if_icmp .ge 63, 3) := by decide +kernel
theorem dX9_mixedWithGrowing_76 : decode cX9_mixedWithGrowing 76 = .ok (.aload_n 0, 1) := by decide +kernel
theorem dX9_mixedWithGrowing_77 : decode cX9_mixedWithGrowing 77 = .ok (.getfield 16, 3) := by decide +kernel
theorem dX9_mixedWithGrowing_80 : decode cX9_mixedWithGrowing 80 = .ok (.iload 5, 2) := by decide +kernel
theorem dX9_mixedWithGrowing_82 : decode cX9_mixedWithGrowing 82 = .ok (.invokevirtual 279, 3) := by decide +kernel
theorem dX9_mixedWithGrowing_85 : decode cX9_mixedWithGrowing 85 = .ok (.checkcast 105, 3) := by decide +kernel
theorem dX9_mixedWithGrowing_88 : decode cX9_mixedWithGrowing 88 = .ok (.astore 6, 2) := by decide +kernel
theorem dX9_mixedWithGrowing_90 : decode cX9_mixedWithGrowing 90 = .ok (.iconst 0, 1) := by decide +kernel
theorem dX9_mixedWithGrowing_91 : decode cX9_mixedWithGrowing 91 = .ok (.istore 7, 2) := by decide +kernel
theorem dX9_mixedWithGrowing_93 : decode cX9_mixedWithGrowing 93 = .ok (.iload 7, 2) := by decide +kernel
theorem dX9_mixedWithGrowing_95 : decode cX9_mixedWithGrowing 95 = .ok (.iconst 5, 1) := by decide +kernel
theorem dX9_mixedWithGrowing_96 : decode cX9_mixedWithGrowing 96 = .ok (.if_icmp .gt 22, 3) := by decide +kernel
theorem dX9_mixedWithGrowing_99 : decode cX9_mixedWithGrowing 99 = .ok (.lload_n 3, 1) := by decide +kernel
theorem dX9_mixedWithGrowing_100 : decode cX9_mixedWithGrowing 100 = .ok (.aload 6, 2) := by decide +kernel
theorem dX9_mixedWithGrowing_102 : decode cX9_mixedWithGrowing 102 = .ok (.iload 7, 2) := by decide +kernel
theorem dX9_mixedWithGrowing_104 : decode cX9_mixedWithGrowing 104 = .ok (.invokevirtual 340, 3) := by decide +kernel
theorem dX9_mixedWithGrowing_107 : decode cX9_mixedWithGrowing 107 = .ok (.i2l, 1) := by decide +kernel
theorem dX9_mixedWithGrowing_108 : decode cX9_mixedWithGrowing 108 = .ok (.invokestatic 392, 3) := by decide +kernel
theorem dX9_mixedWithGrowing_111 : decode cX9_mixedWithGrowing 111 = .ok (.lstore_n 3, 1) := by decide +kernel
theorem dX9_mixedWithGrowing_112 : decode cX9_mixedWithGrowing 112 = .ok (.iinc 7 1, 3) := by decide +kernel
theorem dX9_mixedWithGrowing_115 : decode cX9_mixedWithGrowing 115 = .ok (.goto (-22), 3) := by decide +kernel
theorem dX9_mixedWithGrowing_118 : decode cX9_mixedWithGrowing 118 = .ok (.lload_n 3, 1) := by decide +kernel
theorem dX9_mixedWithGrowing_119 : decode cX9_mixedWithGrowing 119 = .ok (.aload_n 0, 1) := by decide +kernel
theorem dX9_mixedWithGrowing_120 : decode cX9_mixedWithGrowing 120 = .ok (.aload 6, 2) := by decide +kernel
theorem dX9_mixedWithGrowing_122 : decode cX9_mixedWithGrowing 122 = .ok (.invokevirtual 381, 3) := by decide +kernel
theorem dX9_mixedWithGrowing_125 : decode cX9_mixedWithGrowing 125 = .ok (.i2l, 1) := by decide +kernel
theorem dX9_mixedWithGrowing_126 : decode cX9_mixedWithGrowing 126 = .ok (.invokestatic 392, 3) := by decide +kernel
theorem dX9_mixedWithGrowing_129 : decode cX9_mixedWithGrowing 129 = .ok (.lstore_n 3, 1) := by decide +kernel
theorem dX9_mixedWithGrowing_130 : decode cX9_mixedWithGrowing 130 = .ok (.iinc 5 1, 3) := by decide +kernel
theorem dX9_mixedWithGrowing_133 : decode cX9_mixedWithGrowing 133 = .ok (.goto (-69), 3) := by decide +kernel
theorem dX9_mixedWithGrowing_136 : decode cX9_mixedWithGrowing 136 = .ok (.lload_n 3, 1) := by decide +kernel
theorem dX9_mixedWithGrowing_137 : decode cX9_mixedWithGrowing 137 = .ok (.lreturn, 1) := by decide +kernel
theorem dX9_mixedWithLots_0 : decode cX9_mixedWithLots 0 = .ok (.lload_n 1, 1) := by decide +kernel
theorem dX9_mixedWithLots_1 : decode cX9_mixedWithLots 1 = .ok (.lstore_n 3, 1) := by decide +kernel
theorem dX9_mixedWithLots_2 : decode cX9_mixedWithLots 2 = .ok (.iconst 0, 1) := by decide +kernel
theorem dX9_mixedWithLots_3 : decode cX9_mixedWithLots 3 = .ok (.istore 5, 2) := by decide +kernel
theorem dX9_mixedWithLots_5 : decode cX9_mixedWithLots 5 = .ok (.iload 5, 2) := by decide +kernel
theorem dX9_mixedWithLots_7 : decode cX9_mixedWithLots 7 = .ok (.aload_n 0, 1) := by decide +kernel
theorem dX9_mixedWithLots_8 : decode cX9_mixedWithLots 8 = .ok (.getfield 19, 3) := by decide +kernel
theorem dX9_mixedWithLots_11 : decode cX9_mixedWithLots 11 = .ok (.invokevirtual 63, 3) := by decide +kernel
theorem dX9_mixedWithLots_14 : decode cX9_mixedWithLots 14 = .ok (.if_icmp .ge 76, 3) := by decide +kernel
theorem dX9_mixedWithLots_17 : decode cX9_mixedWithLots 17 = .ok (.aload_n 0, 1) := by decide +kernel
theorem dX9_mixedWithLots_18 : decode cX9_mixedWithLots 18 = .ok (.getfield 19, 3) := by decide +kernel
theorem dX9_mixedWithLots_21 : decode cX9_mixedWithLots 21 = .ok (.iload 5, 2) := by decide +kernel
theorem dX9_mixedWithLots_23 : decode cX9_mixedWithLots 23 = .ok (.invokevirtual 279, 3) := by decide +kernel
theorem dX9_mixedWithLots_26 : decode cX9_mixedWithLots 26 = .ok (.checkcast 129, 3) := by decide +kernel
theorem dX9_mixedWithLots_29 : decode cX9_mixedWithLots 29 = .ok (.astore 6, 2) := by decide +kernel
theorem dX9_mixedWithLots_31 : decode cX9_mixedWithLots 31 = .ok (.iconst 0, 1) := by decide +kernel
theorem dX9_mixedWithLots_32 : decode cX9_mixedWithLots 32 = .ok (.istore 7, 2) := by decide +kernel
theorem dX9_mixedWithLots_34 : decode cX9_mixedWithLots 34 = .ok (.iload 7, 2) := by decide +kernel
theorem dX9_mixedWithLots_36 : decode cX9_mixedWithLots 36 = .ok (.bipush 9, 2) := by decide +kernel
theorem dX9_mixedWithLots_38 : decode cX9_mixedWithLots 38 = .ok (.if_icmp .gt 22, 3) := by decide +kernel
theorem dX9_mixedWithLots_41 : decode cX9_mixedWithLots 41 = .ok (.lload_n 3, 1) := by decide +kernel
theorem dX9_mixedWithLots_42 : decode cX9_mixedWithLots 42 = .ok (.aload 6, 2) := by decide +kernel
theorem dX9_mixedWithLots_44 : decode cX9_mixedWithLots 44 = .ok (.iload 7, 2) := by decide +kernel
theorem dX9_mixedWithLots_46 : decode cX9_mixedWithLots 46 = .ok (.invokevirtual 345, 3) := by decide +kernel
theorem dX9_mixedWithLots_49 : decode cX9_mixedWithLots 49 = .ok (.i2l, 1) := by decide +kernel
theorem dX9_mixedWithLots_50 : decode cX9_mixedWithLots 50 = .ok (.invokestatic 392, 3) := by decide +kernel
theorem dX9_mixedWithLots_53 : decode cX9_mixedWithLots 53 = .ok (.lstore_n 3, 1) := by decide +kernel
theorem dX9_mixedWithLots_54 : decode cX9_mixedWithLots 54 = .ok (.iinc 7 1, 3) := by decide +kernel
theorem dX9_mixedWithLots_57 : decode cX9_mixedWithLots 57 = .ok (.goto (-23), 3) := by decide +kernel
theorem dX9_mixedWithLots_60 : decode cX9_mixedWithLots 60 = .ok (.lload_n 3, 1) := by decide +kernel
theorem dX9_mixedWithLots_61 : decode cX9_mixedWithLots 61 = .ok (.aload_n 0, 1) := by decide +kernel
theorem dX9_mixedWithLots_62 : decode cX9_mixedWithLots 62 = .ok (.aload 6, 2) := by decide +kernel
theorem dX9_mixedWithLots_64 : decode cX9_mixedWithLots 64 = .ok (.invokevirtual 374, 3) := by decide +kernel
theorem dX9_mixedWithLots_67 : decode cX9_mixedWithLots 67 = .ok (.i2l, 1) := by decide +kernel
theorem dX9_mixedWithLots_68 : decode cX9_mixedWithLots 68 = .ok (.invokestatic 392, 3) := by decide +kernel
theorem dX9_mixedWithLots_71 : decode cX9_mixedWithLots 71 = .ok (.lstore_n 3, 1) := by decide +kernel
theorem dX9_mixedWithLots_72 : decode cX9_mixedWithLots 72 = .ok (.lload_n 3, 1) := by decide +kernel
theorem dX9_mixedWithLots_73 : decode cX9_mixedWithLots 73 = .ok (.aload_n 0, 1) := by decide +kernel
theorem dX9_mixedWithLots_74 : decode cX9_mixedWithLots 74 = .ok (.aload 6, 2) := by decide +kernel
theorem dX9_mixedWithLots_76 : decode cX9_mixedWithLots 76 = .ok (.invokevirtual 378, 3) := by decide +kernel
theorem dX9_mixedWithLots_79 : decode cX9_mixedWithLots 79 = .ok (.i2l, 1) := by decide +kernel
theorem dX9_mixedWithLots_80 : decode cX9_mixedWithLots 80 = .ok (.invokestatic 392, 3) := by decide +kernel
theorem dX9_mixedWithLots_83 : decode cX9_mixedWithLots 83 = .ok (.lstore_n 3, 1) := by decide +kernel
theorem dX9_mixedWithLots_84 : decode cX9_mixedWithLots 84 = .ok (.iinc 5 1, 3) := by decide +kernel
theorem dX9_mixedWithLots_87 : decode cX9_mixedWithLots 87 = .ok (.goto (-82), 3) := by decide +kernel
theorem dX9_mixedWithLots_90 : decode cX9_mixedWithLots 90 = .ok (.lload_n 3, 1) := by decide +kernel
theorem dX9_mixedWithLots_91 : decode cX9_mixedWithLots 91 = .ok (.lreturn, 1) := by decide +kernel
theorem dX9_mixedWithTrade_0 : decode cX9_mixedWithTrade 0 = .ok (.lload_n 1, 1) := by decide +kernel
theorem dX9_mixedWithTrade_1 : decode cX9_mixedWithTrade 1 = .ok (.lstore_n 3, 1) := by decide +kernel
theorem dX9_mixedWithTrade_2 : decode cX9_mixedWithTrade 2 = .ok (.iconst 0, 1) := by decide +kernel
theorem dX9_mixedWithTrade_3 : decode cX9_mixedWithTrade 3 = .ok (.istore 5, 2) := by decide +kernel
theorem dX9_mixedWithTrade_5 : decode cX9_mixedWithTrade 5 = .ok (.iload 5, 2) := by decide +kernel
theorem dX9_mixedWithTrade_7 : decode cX9_mixedWithTrade 7 = .ok (.aload_n 0, 1) := by decide +kernel
theorem dX9_mixedWithTrade_8 : decode cX9_mixedWithTrade 8 = .ok (.getfield 25, 3) := by decide +kernel
theorem dX9_mixedWithTrade_11 : decode cX9_mixedWithTrade 11 = .ok (.invokevirtual 63, 3) := by decide +kernel
theorem dX9_mixedWithTrade_14 : decode cX9_mixedWithTrade 14 = .ok (.if_icmp .ge 48, 3) := by decide +kernel
theorem dX9_mixedWithTrade_17 : decode cX9_mixedWithTrade 17 = .ok (.iconst 0, 1) := by decide +kernel
theorem dX9_mixedWithTrade_18 : decode cX9_mixedWithTrade 18 = .ok (.istore 6, 2) := by decide +kernel
theorem dX9_mixedWithTrade_20 : decode cX9_mixedWithTrade 20 = .ok (.iload 6, 2) := by decide +kernel
theorem dX9_mixedWithTrade_22 : decode cX9_mixedWithTrade 22 = .ok (.bipush 8, 2) := by decide +kernel
theorem dX9_mixedWithTrade_24 : decode cX9_mixedWithTrade 24 = .ok (.if_icmp .gt 32, 3) := by decide +kernel
theorem dX9_mixedWithTrade_27 : decode cX9_mixedWithTrade 27 = .ok (.lload_n 3, 1) := by decide +kernel
theorem dX9_mixedWithTrade_28 : decode cX9_mixedWithTrade 28 = .ok (.aload_n 0, 1) := by decide +kernel
theorem dX9_mixedWithTrade_29 : decode cX9_mixedWithTrade 29 = .ok (.getfield 25, 3) := by decide +kernel
theorem dX9_mixedWithTrade_32 : decode cX9_mixedWithTrade 32 = .ok (.iload 5, 2) := by decide +kernel
theorem dX9_mixedWithTrade_34 : decode cX9_mixedWithTrade 34 = .ok (.invokevirtual 279, 3) := by decide +kernel
theorem dX9_mixedWithTrade_37 : decode cX9_mixedWithTrade 37 = .ok (.checkcast 210, 3) := by decide +kernel
theorem dX9_mixedWithTrade_40 : decode cX9_mixedWithTrade 40 = .ok (.iload 6, 2) := by decide +kernel
theorem dX9_mixedWithTrade_42 : decode cX9_mixedWithTrade 42 = .ok (.invokevirtual 351, 3) := by decide +kernel
theorem dX9_mixedWithTrade_45 : decode cX9_mixedWithTrade 45 = .ok (.i2l, 1) := by decide +kernel
theorem dX9_mixedWithTrade_46 : decode cX9_mixedWithTrade 46 = .ok (.invokestatic 392, 3) := by decide +kernel
theorem dX9_mixedWithTrade_49 : decode cX9_mixedWithTrade 49 = .ok (.lstore_n 3, 1) := by decide +kernel
theorem dX9_mixedWithTrade_50 : decode cX9_mixedWithTrade 50 = .ok (.iinc 6 1, 3) := by decide +kernel
theorem dX9_mixedWithTrade_53 : decode cX9_mixedWithTrade 53 = .ok (.goto (-33), 3) := by decide +kernel
theorem dX9_mixedWithTrade_56 : decode cX9_mixedWithTrade 56 = .ok (.iinc 5 1, 3) := by decide +kernel
theorem dX9_mixedWithTrade_59 : decode cX9_mixedWithTrade 59 = .ok (.goto (-54), 3) := by decide +kernel
theorem dX9_mixedWithTrade_62 : decode cX9_mixedWithTrade 62 = .ok (.iconst 0, 1) := by decide +kernel
theorem dX9_mixedWithTrade_63 : decode cX9_mixedWithTrade 63 = .ok (.istore 5, 2) := by decide +kernel
theorem dX9_mixedWithTrade_65 : decode cX9_mixedWithTrade 65 = .ok (.iload 5, 2) := by decide +kernel
theorem dX9_mixedWithTrade_67 : decode cX9_mixedWithTrade 67 = .ok (.aload_n 0, 1) := by decide +kernel
theorem dX9_mixedWithTrade_68 : decode cX9_mixedWithTrade 68 = .ok (.getfield 28, 3) := by decide +kernel
theorem dX9_mixedWithTrade_71 : decode cX9_mixedWithTrade 71 = .ok (.invokevirtual 63, 3) := by decide +kernel
theorem dX9_mixedWithTrade_74 : decode cX9_mixedWithTrade 74 = .ok (.if_icmp .ge 30, 3) := by decide +kernel
theorem dX9_mixedWithTrade_77 : decode cX9_mixedWithTrade 77 = .ok (.lload_n 3, 1) := by decide +kernel
theorem dX9_mixedWithTrade_78 : decode cX9_mixedWithTrade 78 = .ok (.aload_n 0, 1) := by decide +kernel
theorem dX9_mixedWithTrade_79 : decode cX9_mixedWithTrade 79 = .ok (.getfield 28, 3) := by decide +kernel
theorem dX9_mixedWithTrade_82 : decode cX9_mixedWithTrade 82 = .ok (.iload 5, 2) := by decide +kernel
theorem dX9_mixedWithTrade_84 : decode cX9_mixedWithTrade 84 = .ok (.invokevirtual 279, 3) := by decide +kernel
theorem dX9_mixedWithTrade_87 : decode cX9_mixedWithTrade 87 = .ok (.checkcast 232, 3) := by decide +kernel
theorem dX9_mixedWithTrade_90 : decode cX9_mixedWithTrade 90 = .ok (.getfield 354, 3) := by decide +kernel
theorem dX9_mixedWithTrade_93 : decode cX9_mixedWithTrade 93 = .ok (.i2l, 1) := by decide +kernel
theorem dX9_mixedWithTrade_94 : decode cX9_mixedWithTrade 94 = .ok (.invokestatic 392, 3) := by decide +kernel
theorem dX9_mixedWithTrade_97 : decode cX9_mixedWithTrade 97 = .ok (.lstore_n 3, 1) := by decide +kernel
theorem dX9_mixedWithTrade_98 : decode cX9_mixedWithTrade 98 = .ok (.iinc 5 1, 3) := by decide +kernel
theorem dX9_mixedWithTrade_101 : decode cX9_mixedWithTrade 101 = .ok (.goto (-36), 3) := by decide +kernel
theorem dX9_mixedWithTrade_104 : decode cX9_mixedWithTrade 104 = .ok (.aload_n 0, 1) := by decide +kernel
theorem dX9_mixedWithTrade_105 : decode cX9_mixedWithTrade 105 = .ok (.getfield 34, 3) := by decide +kernel
theorem dX9_mixedWithTrade_108 : decode cX9_mixedWithTrade 108 = .ok (.invokevirtual 63, 3) := by decide +kernel
theorem dX9_mixedWithTrade_111 : decode cX9_mixedWithTrade 111 = .ok (.iconst 1, 1) := by decide +kernel
theorem dX9_mixedWithTrade_112 : decode cX9_mixedWithTrade 112 = .ok (.isub, 1) := by decide +kernel
theorem dX9_mixedWithTrade_113 : decode cX9_mixedWithTrade 113 = .ok (.istore 5, 2) := by decide +kernel
theorem dX9_mixedWithTrade_115 : decode cX9_mixedWithTrade 115 = .ok (.iload 5, 2) := by decide +kernel
theorem dX9_mixedWithTrade_117 : decode cX9_mixedWithTrade 117 = .ok (.ifCond .lt 47, 3) := by decide +kernel
theorem dX9_mixedWithTrade_120 : decode cX9_mixedWithTrade 120 = .ok (.iconst 0, 1) := by decide +kernel
theorem dX9_mixedWithTrade_121 : decode cX9_mixedWithTrade 121 = .ok (.istore 6, 2) := by decide +kernel
theorem dX9_mixedWithTrade_123 : decode cX9_mixedWithTrade 123 = .ok (.iload 6, 2) := by decide +kernel
theorem dX9_mixedWithTrade_125 : decode cX9_mixedWithTrade 125 = .ok (.iconst 4, 1) := by decide +kernel
theorem dX9_mixedWithTrade_126 : decode cX9_mixedWithTrade 126 = .ok (.if_icmp .gt 32, 3) := by decide +kernel
theorem dX9_mixedWithTrade_129 : decode cX9_mixedWithTrade 129 = .ok (.lload_n 3, 1) := by decide +kernel
theorem dX9_mixedWithTrade_130 : decode cX9_mixedWithTrade 130 = .ok (.aload_n 0, 1) := by decide +kernel
theorem dX9_mixedWithTrade_131 : decode cX9_mixedWithTrade 131 = .ok (.getfield 34, 3) := by decide +kernel
theorem dX9_mixedWithTrade_134 : decode cX9_mixedWithTrade 134 = .ok (.iload 5, 2) := by decide +kernel
theorem dX9_mixedWithTrade_136 : decode cX9_mixedWithTrade 136 = .ok (.invokevirtual 279, 3) := by decide +kernel
theorem dX9_mixedWithTrade_139 : decode cX9_mixedWithTrade 139 = .ok (.checkcast 282, 3) := by decide +kernel
theorem dX9_mixedWithTrade_142 : decode cX9_mixedWithTrade 142 = .ok (.iload 6, 2) := by decide +kernel
theorem dX9_mixedWithTrade_144 : decode cX9_mixedWithTrade 144 = .ok (.invokevirtual 359, 3) := by decide +kernel
theorem dX9_mixedWithTrade_147 : decode cX9_mixedWithTrade 147 = .ok (.i2l, 1) := by decide +kernel
theorem dX9_mixedWithTrade_148 : decode cX9_mixedWithTrade 148 = .ok (.invokestatic 392, 3) := by decide +kernel
theorem dX9_mixedWithTrade_151 : decode cX9_mixedWithTrade 151 = .ok (.lstore_n 3, 1) := by decide +kernel
theorem dX9_mixedWithTrade_152 : decode cX9_mixedWithTrade 152 = .ok (.iinc 6 1, 3) := by decide +kernel
theorem dX9_mixedWithTrade_155 : decode cX9_mixedWithTrade 155 = .ok (.goto (-32), 3) := by decide +kernel
theorem dX9_mixedWithTrade_158 : decode cX9_mixedWithTrade 158 = .ok (.iinc 5 (-1), 3) := by decide +kernel
theorem dX9_mixedWithTrade_161 : decode cX9_mixedWithTrade 161 = .ok (.goto (-46), 3) := by decide +kernel
theorem dX9_mixedWithTrade_164 : decode cX9_mixedWithTrade 164 = .ok (.lload_n 3, 1) := by decide +kernel
theorem dX9_mixedWithTrade_165 : decode cX9_mixedWithTrade 165 = .ok (.lreturn, 1) := by decide +kernel
theorem dJ9_max_7cf53_0 : decode cJ9_max_7cf53 0 = .ok (.iload_n 0, 1) := by decide +kernel
theorem dJ9_max_7cf53_1 : decode cJ9_max_7cf53 1 = .ok (.iload_n 1, 1) := by decide +kernel
theorem dJ9_max_7cf53_2 : decode cJ9_max_7cf53 2 = .ok (.if_icmp .lt 7, 3) := by decide +kernel
theorem dJ9_max_7cf53_5 : decode cJ9_max_7cf53 5 = .ok (.iload_n 0, 1) := by decide +kernel
theorem dJ9_max_7cf53_6 : decode cJ9_max_7cf53 6 = .ok (.goto 4, 3) := by decide +kernel
theorem dJ9_max_7cf53_9 : decode cJ9_max_7cf53 9 = .ok (.iload_n 1, 1) := by decide +kernel
theorem dJ9_max_7cf53_10 : decode cJ9_max_7cf53 10 = .ok (.ireturn, 1) := by decide +kernel
theorem dJ9_min_7cf53_0 : decode cJ9_min_7cf53 0 = .ok (.iload_n 0, 1) := by decide +kernel
theorem dJ9_min_7cf53_1 : decode cJ9_min_7cf53 1 = .ok (.iload_n 1, 1) := by decide +kernel
theorem dJ9_min_7cf53_2 : decode cJ9_min_7cf53 2 = .ok (.if_icmp .gt 7, 3) := by decide +kernel
theorem dJ9_min_7cf53_5 : decode cJ9_min_7cf53 5 = .ok (.iload_n 0, 1) := by decide +kernel
theorem dJ9_min_7cf53_6 : decode cJ9_min_7cf53 6 = .ok (.goto 4, 3) := by decide +kernel
theorem dJ9_min_7cf53_9 : decode cJ9_min_7cf53 9 = .ok (.iload_n 1, 1) := by decide +kernel
theorem dJ9_min_7cf53_10 : decode cJ9_min_7cf53 10 = .ok (.ireturn, 1) := by decide +kernel
theorem dJxa1e45_init_da8c8_0 : decode cJxa1e45_init_da8c8 0 = .ok (.aload_n 0, 1) := by decide +kernel
theorem dJxa1e45_init_da8c8_1 : decode cJxa1e45_init_da8c8 1 = .ok (.invokespecial 1, 3) := by decide +kernel
theorem dJxa1e45_init_da8c8_4 : decode cJxa1e45_init_da8c8 4 = .ok (.return_, 1) := by decide +kernel
theorem dJxc12de_init_da8c8_0 : decode cJxc12de_init_da8c8 0 = .ok (.aload_n 0, 1) := by decide +kernel
theorem dJxc12de_init_da8c8_1 : decode cJxc12de_init_da8c8 1 = .ok (.invokespecial 1, 3) := by decide +kernel
theorem dJxc12de_init_da8c8_4 : decode cJxc12de_init_da8c8 4 = .ok (.aload_n 0, 1) := by decide +kernel
theorem dJxc12de_init_da8c8_5 : decode cJxc12de_init_da8c8 5 = .ok (.iconst 0, 1) := by decide +kernel
theorem dJxc12de_init_da8c8_6 : decode cJxc12de_init_da8c8 6 = .ok (.putfield 7, 3) := by decide +kernel
theorem dJxc12de_init_da8c8_9 : decode cJxc12de_init_da8c8 9 = .ok (.return_, 1) := by decide +kernel
theorem dJx4a65c_init_da8c8_0 : decode cJx4a65c_init_da8c8 0 = .ok (.aload_n 0, 1) := by decide +kernel
theorem dJx4a65c_init_da8c8_1 : decode cJx4a65c_init_da8c8 1 = .ok (.invokespecial 1, 3) := by decide +kernel
theorem dJx4a65c_init_da8c8_4 : decode cJx4a65c_init_da8c8 4 = .ok (.aload_n 0, 1) := by decide +kernel
theorem dJx4a65c_init_da8c8_5 : decode cJx4a65c_init_da8c8 5 = .ok (.getstatic 39, 3) := by decide +kernel
theorem dJx4a65c_init_da8c8_8 : decode cJx4a65c_init_da8c8 8 = .ok (.putfield 9, 3) := by decide +kernel
theorem dJx4a65c_init_da8c8_11 : decode cJx4a65c_init_da8c8 11 = .ok (.return_, 1) := by decide +kernel
theorem dJx4a65c_grow_92f84_0 : decode cJx4a65c_grow_92f84 0 = .ok (.aload_n 0, 1) := by decide +kernel
theorem dJx4a65c_grow_92f84_1 : decode cJx4a65c_grow_92f84 1 = .ok (.getfield 9, 3) := by decide +kernel
theorem dJx4a65c_grow_92f84_4 : decode cJx4a65c_grow_92f84 4 = .ok (.arraylength, 1) := by decide +kernel
theorem dJx4a65c_grow_92f84_5 : decode cJx4a65c_grow_92f84 5 = .ok (.istore_n 2, 1) := by decide +kernel
theorem dJx4a65c_grow_92f84_6 : decode cJx4a65c_grow_92f84 6 = .ok (.iload_n 2, 1) := by decide +kernel
theorem dJx4a65c_grow_92f84_7 : decode cJx4a65c_grow_92f84 7 = .ok (.ifCond .gt 13, 3) := by decide +kernel
theorem dJx4a65c_grow_92f84_10 : decode cJx4a65c_grow_92f84 10 = .ok (.aload_n 0, 1) := by decide +kernel
theorem dJx4a65c_grow_92f84_11 : decode cJx4a65c_grow_92f84 11 = .ok (.getfield 9, 3) := by decide +kernel
theorem dJx4a65c_grow_92f84_14 : decode cJx4a65c_grow_92f84 14 = .ok (.getstatic 39, 3) := by decide +kernel
theorem dJx4a65c_grow_92f84_17 : decode cJx4a65c_grow_92f84 17 = .ok (.if_acmp .eq 28, 3) := by decide +kernel
theorem dJx4a65c_grow_92f84_20 : decode cJx4a65c_grow_92f84 20 = .ok (.iload_n 2, 1) := by decide +kernel
theorem dJx4a65c_grow_92f84_21 : decode cJx4a65c_grow_92f84 21 = .ok (.iload_n 1, 1) := by decide +kernel
theorem dJx4a65c_grow_92f84_22 : decode cJx4a65c_grow_92f84 22 = .ok (.iload_n 2, 1) := by decide +kernel
theorem dJx4a65c_grow_92f84_23 : decode cJx4a65c_grow_92f84 23 = .ok (.isub, 1) := by decide +kernel
theorem dJx4a65c_grow_92f84_24 : decode cJx4a65c_grow_92f84 24 = .ok (.iload_n 2, 1) := by decide +kernel
theorem dJx4a65c_grow_92f84_25 : decode cJx4a65c_grow_92f84 25 = .ok (.iconst 1, 1) := by decide +kernel
theorem dJx4a65c_grow_92f84_26 : decode cJx4a65c_grow_92f84 26 = .ok (.ishr, 1) := by decide +kernel
theorem dJx4a65c_grow_92f84_27 : decode cJx4a65c_grow_92f84 27 = .ok (.invokestatic 73, 3) := by decide +kernel
theorem dJx4a65c_grow_92f84_30 : decode cJx4a65c_grow_92f84 30 = .ok (.istore_n 3, 1) := by decide +kernel
theorem dJx4a65c_grow_92f84_31 : decode cJx4a65c_grow_92f84 31 = .ok (.aload_n 0, 1) := by decide +kernel
theorem dJx4a65c_grow_92f84_32 : decode cJx4a65c_grow_92f84 32 = .ok (.aload_n 0, 1) := by decide +kernel
theorem dJx4a65c_grow_92f84_33 : decode cJx4a65c_grow_92f84 33 = .ok (.getfield 9, 3) := by decide +kernel
theorem dJx4a65c_grow_92f84_36 : decode cJx4a65c_grow_92f84 36 = .ok (.iload_n 3, 1) := by decide +kernel
theorem dJx4a65c_grow_92f84_37 : decode cJx4a65c_grow_92f84 37 = .ok (.invokestatic 66, 3) := by decide +kernel
theorem dJx4a65c_grow_92f84_40 : decode cJx4a65c_grow_92f84 40 = .ok (.dup_x1, 1) := by decide +kernel
theorem dJx4a65c_grow_92f84_41 : decode cJx4a65c_grow_92f84 41 = .ok (.putfield 9, 3) := by decide +kernel
theorem dJx4a65c_grow_92f84_44 : decode cJx4a65c_grow_92f84 44 = .ok (.areturn, 1) := by decide +kernel
theorem dJx4a65c_grow_92f84_45 : decode cJx4a65c_grow_92f84 45 = .ok (.aload_n 0, 1) := by decide +kernel
theorem dJx4a65c_grow_92f84_46 : decode cJx4a65c_grow_92f84 46 = .ok (.bipush 10, 2) := by decide +kernel
theorem dJx4a65c_grow_92f84_48 : decode cJx4a65c_grow_92f84 48 = .ok (.iload_n 1, 1) := by decide +kernel
theorem dJx4a65c_grow_92f84_49 : decode cJx4a65c_grow_92f84 49 = .ok (.invokestatic 79, 3) := by decide +kernel
theorem dJx4a65c_grow_92f84_52 : decode cJx4a65c_grow_92f84 52 = .ok (.anewarray 7, 3) := by decide +kernel
theorem dJx4a65c_grow_92f84_55 : decode cJx4a65c_grow_92f84 55 = .ok (.dup_x1, 1) := by decide +kernel
theorem dJx4a65c_grow_92f84_56 : decode cJx4a65c_grow_92f84 56 = .ok (.putfield 9, 3) := by decide +kernel
theorem dJx4a65c_grow_92f84_59 : decode cJx4a65c_grow_92f84 59 = .ok (.areturn, 1) := by decide +kernel
theorem dJx4a65c_grow_d5877_0 : decode cJx4a65c_grow_d5877 0 = .ok (.aload_n 0, 1) := by decide +kernel
theorem dJx4a65c_grow_d5877_1 : decode cJx4a65c_grow_d5877 1 = .ok (.aload_n 0, 1) := by decide +kernel
theorem dJx4a65c_grow_d5877_2 : decode cJx4a65c_grow_d5877 2 = .ok (.getfield 48, 3) := by decide +kernel
theorem dJx4a65c_grow_d5877_5 : decode cJx4a65c_grow_d5877 5 = .ok (.iconst 1, 1) := by decide +kernel
theorem dJx4a65c_grow_d5877_6 : decode cJx4a65c_grow_d5877 6 = .ok (.iadd, 1) := by decide +kernel
theorem dJx4a65c_grow_d5877_7 : decode cJx4a65c_grow_d5877 7 = .ok (.invokevirtual 69, 3) := by decide +kernel
theorem dJx4a65c_grow_d5877_10 : decode cJx4a65c_grow_d5877 10 = .ok (.areturn, 1) := by decide +kernel
theorem dJx4a65c_size_8abf5_0 : decode cJx4a65c_size_8abf5 0 = .ok (.aload_n 0, 1) := by decide +kernel
theorem dJx4a65c_size_8abf5_1 : decode cJx4a65c_size_8abf5 1 = .ok (.getfield 48, 3) := by decide +kernel
theorem dJx4a65c_size_8abf5_4 : decode cJx4a65c_size_8abf5 4 = .ok (.ireturn, 1) := by decide +kernel
theorem dJx4a65c_isEmpty_aae02_0 : decode cJx4a65c_isEmpty_aae02 0 = .ok (.aload_n 0, 1) := by decide +kernel
theorem dJx4a65c_isEmpty_aae02_1 : decode cJx4a65c_isEmpty_aae02 1 = .ok (.getfield 48, 3) := by decide +kernel
theorem dJx4a65c_isEmpty_aae02_4 : decode cJx4a65c_isEmpty_aae02 4 = .ok (.ifCond .ne 7, 3) := by decide +kernel
theorem dJx4a65c_isEmpty_aae02_7 : decode cJx4a65c_isEmpty_aae02 7 = .ok (.iconst 1, 1) := by decide +kernel
theorem dJx4a65c_isEmpty_aae02_8 : decode cJx4a65c_isEmpty_aae02 8 = .ok (.goto 4, 3) := by decide +kernel
theorem dJx4a65c_isEmpty_aae02_11 : decode cJx4a65c_isEmpty_aae02 11 = .ok (.iconst 0, 1) := by decide +kernel
theorem dJx4a65c_isEmpty_aae02_12 : decode cJx4a65c_isEmpty_aae02 12 = .ok (.ireturn, 1) := by decide +kernel
theorem dJx4a65c_elementData_915e3_0 : decode cJx4a65c_elementData_915e3 0 = .ok (.aload_n 0, 1) := by decide +kernel
theorem dJx4a65c_elementData_915e3_1 : decode cJx4a65c_elementData_915e3 1 = .ok (.getfield 9, 3) := by decide +kernel
theorem dJx4a65c_elementData_915e3_4 : decode cJx4a65c_elementData_915e3 4 = .ok (.iload_n 1, 1) := by decide +kernel
theorem dJx4a65c_elementData_915e3_5 : decode cJx4a65c_elementData_915e3 5 = .ok (.aaload, 1) := by decide +kernel
theorem dJx4a65c_elementData_915e3_6 : decode cJx4a65c_elementData_915e3 6 = .ok (.areturn, 1) := by decide +kernel
theorem dJx4a65c_get_915e3_0 : decode cJx4a65c_get_915e3 0 = .ok (.iload_n 1, 1) := by decide +kernel
theorem dJx4a65c_get_915e3_1 : decode cJx4a65c_get_915e3 1 = .ok (.aload_n 0, 1) := by decide +kernel
theorem dJx4a65c_get_915e3_2 : decode cJx4a65c_get_915e3 2 = .ok (.getfield 48, 3) := by decide +kernel
theorem dJx4a65c_get_915e3_5 : decode cJx4a65c_get_915e3 5 = .ok (.invokestatic 118, 3) := by decide +kernel
theorem dJx4a65c_get_915e3_8 : decode cJx4a65c_get_915e3 8 = .ok (.pop, 1) := by decide +kernel
theorem dJx4a65c_get_915e3_9 : decode cJx4a65c_get_915e3 9 = .ok (.aload_n 0, 1) := by decide +kernel
theorem dJx4a65c_get_915e3_10 : decode cJx4a65c_get_915e3 10 = .ok (.iload_n 1, 1) := by decide +kernel
theorem dJx4a65c_get_915e3_11 : decode cJx4a65c_get_915e3 11 = .ok (.invokevirtual 123, 3) := by decide +kernel
theorem dJx4a65c_get_915e3_14 : decode cJx4a65c_get_915e3 14 = .ok (.areturn, 1) := by decide +kernel
theorem dJx4a65c_add_72be8_0 : decode cJx4a65c_add_72be8 0 = .ok (.iload_n 3, 1) := by decide +kernel
theorem dJx4a65c_add_72be8_1 : decode cJx4a65c_add_72be8 1 = .ok (.aload_n 2, 1) := by decide +kernel
theorem dJx4a65c_add_72be8_2 : decode cJx4a65c_add_72be8 2 = .ok (.arraylength, 1) := by decide +kernel
theorem dJx4a65c_add_72be8_3 : decode cJx4a65c_add_72be8 3 = .ok (.if_icmp .ne 8, 3) := by decide +kernel
theorem dJx4a65c_add_72be8_6 : decode cJx4a65c_add_72be8 6 = .ok (.aload_n 0, 1) := by decide +kernel
theorem dJx4a65c_add_72be8_7 : decode cJx4a65c_add_72be8 7 = .ok (.invokevirtual 129, 3) := by decide +kernel
theorem dJx4a65c_add_72be8_10 : decode cJx4a65c_add_72be8 10 = .ok (.astore_n 2, 1) := by decide +kernel
theorem dJx4a65c_add_72be8_11 : decode cJx4a65c_add_72be8 11 = .ok (.aload_n 2, 1) := by decide +kernel
theorem dJx4a65c_add_72be8_12 : decode cJx4a65c_add_72be8 12 = .ok (.iload_n 3, 1) := by decide +kernel
theorem dJx4a65c_add_72be8_13 : decode cJx4a65c_add_72be8 13 = .ok (.aload_n 1, 1) := by decide +kernel
theorem dJx4a65c_add_72be8_14 : decode cJx4a65c_add_72be8 14 = .ok (.aastore, 1) := by decide +kernel
theorem dJx4a65c_add_72be8_15 : decode cJx4a65c_add_72be8 15 = .ok (.aload_n 0, 1) := by decide +kernel
theorem dJx4a65c_add_72be8_16 : decode cJx4a65c_add_72be8 16 = .ok (.iload_n 3, 1) := by decide +kernel
theorem dJx4a65c_add_72be8_17 : decode cJx4a65c_add_72be8 17 = .ok (.iconst 1, 1) := by decide +kernel
theorem dJx4a65c_add_72be8_18 : decode cJx4a65c_add_72be8 18 = .ok (.iadd, 1) := by decide +kernel
theorem dJx4a65c_add_72be8_19 : decode cJx4a65c_add_72be8 19 = .ok (.putfield 48, 3) := by decide +kernel
theorem dJx4a65c_add_72be8_22 : decode cJx4a65c_add_72be8 22 = .ok (.return_, 1) := by decide +kernel
theorem dJx4a65c_add_9ea2d_0 : decode cJx4a65c_add_9ea2d 0 = .ok (.aload_n 0, 1) := by decide +kernel
theorem dJx4a65c_add_9ea2d_1 : decode cJx4a65c_add_9ea2d 1 = .ok (.dup, 1) := by decide +kernel
theorem dJx4a65c_add_9ea2d_2 : decode cJx4a65c_add_9ea2d 2 = .ok (.getfield 63, 3) := by decide +kernel
theorem dJx4a65c_add_9ea2d_5 : decode cJx4a65c_add_9ea2d 5 = .ok (.iconst 1, 1) := by decide +kernel
theorem dJx4a65c_add_9ea2d_6 : decode cJx4a65c_add_9ea2d 6 = .ok (.iadd, 1) := by decide +kernel
theorem dJx4a65c_add_9ea2d_7 : decode cJx4a65c_add_9ea2d 7 = .ok (.putfield 63, 3) := by decide +kernel
theorem dJx4a65c_add_9ea2d_10 : decode cJx4a65c_add_9ea2d 10 = .ok (.aload_n 0, 1) := by decide +kernel
theorem dJx4a65c_add_9ea2d_11 : decode cJx4a65c_add_9ea2d 11 = .ok (.aload_n 1, 1) := by decide +kernel
theorem dJx4a65c_add_9ea2d_12 : decode cJx4a65c_add_9ea2d 12 = .ok (.aload_n 0, 1) := by decide +kernel
theorem dJx4a65c_add_9ea2d_13 : decode cJx4a65c_add_9ea2d 13 = .ok (.getfield 9, 3) := by decide +kernel
theorem dJx4a65c_add_9ea2d_16 : decode cJx4a65c_add_9ea2d 16 = .ok (.aload_n 0, 1) := by decide +kernel
theorem dJx4a65c_add_9ea2d_17 : decode cJx4a65c_add_9ea2d 17 = .ok (.getfield 48, 3) := by decide +kernel
theorem dJx4a65c_add_9ea2d_20 : decode cJx4a65c_add_9ea2d 20 = .ok (.invokevirtual 131, 3) := by decide +kernel
theorem dJx4a65c_add_9ea2d_23 : decode cJx4a65c_add_9ea2d 23 = .ok (.iconst 1, 1) := by decide +kernel
theorem dJx4a65c_add_9ea2d_24 : decode cJx4a65c_add_9ea2d 24 = .ok (.ireturn, 1) := by decide +kernel
theorem dJx4a65c_remove_915e3_0 : decode cJx4a65c_remove_915e3 0 = .ok (.iload_n 1, 1) := by decide +kernel
theorem dJx4a65c_remove_915e3_1 : decode cJx4a65c_remove_915e3 1 = .ok (.aload_n 0, 1) := by decide +kernel
theorem dJx4a65c_remove_915e3_2 : decode cJx4a65c_remove_915e3 2 = .ok (.getfield 48, 3) := by decide +kernel
theorem dJx4a65c_remove_915e3_5 : decode cJx4a65c_remove_915e3 5 = .ok (.invokestatic 118, 3) := by decide +kernel
theorem dJx4a65c_remove_915e3_8 : decode cJx4a65c_remove_915e3 8 = .ok (.pop, 1) := by decide +kernel
theorem dJx4a65c_remove_915e3_9 : decode cJx4a65c_remove_915e3 9 = .ok (.aload_n 0, 1) := by decide +kernel
theorem dJx4a65c_remove_915e3_10 : decode cJx4a65c_remove_915e3 10 = .ok (.getfield 9, 3) := by decide +kernel
theorem dJx4a65c_remove_915e3_13 : decode cJx4a65c_remove_915e3 13 = .ok (.astore_n 2, 1) := by decide +kernel
theorem dJx4a65c_remove_915e3_14 : decode cJx4a65c_remove_915e3 14 = .ok (.aload_n 2, 1) := by decide +kernel
theorem dJx4a65c_remove_915e3_15 : decode cJx4a65c_remove_915e3 15 = .ok (.iload_n 1, 1) := by decide +kernel
theorem dJx4a65c_remove_915e3_16 : decode cJx4a65c_remove_915e3 16 = .ok (.aaload, 1) := by decide +kernel
theorem dJx4a65c_remove_915e3_17 : decode cJx4a65c_remove_915e3 17 = .ok (.astore_n 3, 1) := by decide +kernel
theorem dJx4a65c_remove_915e3_18 : decode cJx4a65c_remove_915e3 18 = .ok (.aload_n 0, 1) := by decide +kernel
theorem dJx4a65c_remove_915e3_19 : decode cJx4a65c_remove_915e3 19 = .ok (.aload_n 2, 1) := by decide +kernel
theorem dJx4a65c_remove_915e3_20 : decode cJx4a65c_remove_915e3 20 = .ok (.iload_n 1, 1) := by decide +kernel
theorem dJx4a65c_remove_915e3_21 : decode cJx4a65c_remove_915e3 21 = .ok (.invokevirtual 144, 3) := by decide +kernel
theorem dJx4a65c_remove_915e3_24 : decode cJx4a65c_remove_915e3 24 = .ok (.aload_n 3, 1) := by decide +kernel
theorem dJx4a65c_remove_915e3_25 : decode cJx4a65c_remove_915e3 25 = .ok (.areturn, 1) := by decide +kernel
theorem dJx4a65c_fastRemove_b59b0_0 : decode cJx4a65c_fastRemove_b59b0 0 = .ok (.aload_n 0, 1) := by decide +kernel
theorem dJx4a65c_fastRemove_b59b0_1 : decode cJx4a65c_fastRemove_b59b0 1 = .ok (.dup, 1) := by decide +kernel
theorem dJx4a65c_fastRemove_b59b0_2 : decode cJx4a65c_fastRemove_b59b0 2 = .ok (.getfield 63, 3) := by decide +kernel
theorem dJx4a65c_fastRemove_b59b0_5 : decode cJx4a65c_fastRemove_b59b0 5 = .ok (.iconst 1, 1) := by decide +kernel
theorem dJx4a65c_fastRemove_b59b0_6 : decode cJx4a65c_fastRemove_b59b0 6 = .ok (.iadd, 1) := by decide +kernel
theorem dJx4a65c_fastRemove_b59b0_7 : decode cJx4a65c_fastRemove_b59b0 7 = .ok (.putfield 63, 3) := by decide +kernel
theorem dJx4a65c_fastRemove_b59b0_10 : decode cJx4a65c_fastRemove_b59b0 10 = .ok (.aload_n 0, 1) := by decide +kernel
theorem dJx4a65c_fastRemove_b59b0_11 : decode cJx4a65c_fastRemove_b59b0 11 = .ok (.getfield 48, 3) := by decide +kernel
theorem dJx4a65c_fastRemove_b59b0_14 : decode cJx4a65c_fastRemove_b59b0 14 = .ok (.iconst 1, 1) := by decide +kernel
theorem dJx4a65c_fastRemove_b59b0_15 : decode cJx4a65c_fastRemove_b59b0 15 = .ok (.isub, 1) := by decide +kernel
theorem dJx4a65c_fastRemove_b59b0_16 : decode cJx4a65c_fastRemove_b59b0 16 = .ok (.dup, 1) := by decide +kernel
theorem dJx4a65c_fastRemove_b59b0_17 : decode cJx4a65c_fastRemove_b59b0 17 = .ok (.istore_n 3, 1) := by decide +kernel
theorem dJx4a65c_fastRemove_b59b0_18 : decode cJx4a65c_fastRemove_b59b0 18 = .ok (.iload_n 2, 1) := by decide +kernel
theorem dJx4a65c_fastRemove_b59b0_19 : decode cJx4a65c_fastRemove_b59b0 19 = .ok (.if_icmp .le 15, 3) := by decide +kernel
theorem dJx4a65c_fastRemove_b59b0_22 : decode cJx4a65c_fastRemove_b59b0 22 = .ok (.aload_n 1, 1) := by decide +kernel
theorem dJx4a65c_fastRemove_b59b0_23 : decode cJx4a65c_fastRemove_b59b0 23 = .ok (.iload_n 2, 1) := by decide +kernel
theorem dJx4a65c_fastRemove_b59b0_24 : decode cJx4a65c_fastRemove_b59b0 24 = .ok (.iconst 1, 1) := by decide +kernel
theorem dJx4a65c_fastRemove_b59b0_25 : decode cJx4a65c_fastRemove_b59b0 25 = .ok (.iadd, 1) := by decide +kernel
theorem dJx4a65c_fastRemove_b59b0_26 : decode cJx4a65c_fastRemove_b59b0 26 = .ok (.aload_n 1, 1) := by decide +kernel
theorem dJx4a65c_fastRemove_b59b0_27 : decode cJx4a65c_fastRemove_b59b0 27 = .ok (.iload_n 2, 1) := by decide +kernel
theorem dJx4a65c_fastRemove_b59b0_28 : decode cJx4a65c_fastRemove_b59b0 28 = .ok (.iload_n 3, 1) := by decide +kernel
theorem dJx4a65c_fastRemove_b59b0_29 : decode cJx4a65c_fastRemove_b59b0 29 = .ok (.iload_n 2, 1) := by decide +kernel
theorem dJx4a65c_fastRemove_b59b0_30 : decode cJx4a65c_fastRemove_b59b0 30 = .ok (.isub, 1) := by decide +kernel
theorem dJx4a65c_fastRemove_b59b0_31 : decode cJx4a65c_fastRemove_b59b0 31 = .ok (.invokestatic 112, 3) := by decide +kernel
theorem dJx4a65c_fastRemove_b59b0_34 : decode cJx4a65c_fastRemove_b59b0 34 = .ok (.aload_n 1, 1) := by decide +kernel
theorem dJx4a65c_fastRemove_b59b0_35 : decode cJx4a65c_fastRemove_b59b0 35 = .ok (.aload_n 0, 1) := by decide +kernel
theorem dJx4a65c_fastRemove_b59b0_36 : decode cJx4a65c_fastRemove_b59b0 36 = .ok (.iload_n 3, 1) := by decide +kernel
theorem dJx4a65c_fastRemove_b59b0_37 : decode cJx4a65c_fastRemove_b59b0 37 = .ok (.dup_x1, 1) := by decide +kernel
theorem dJx4a65c_fastRemove_b59b0_38 : decode cJx4a65c_fastRemove_b59b0 38 = .ok (.putfield 48, 3) := by decide +kernel
theorem dJx4a65c_fastRemove_b59b0_41 : decode cJx4a65c_fastRemove_b59b0 41 = .ok (.aconst_null, 1) := by decide +kernel
theorem dJx4a65c_fastRemove_b59b0_42 : decode cJx4a65c_fastRemove_b59b0 42 = .ok (.aastore, 1) := by decide +kernel
theorem dJx4a65c_fastRemove_b59b0_43 : decode cJx4a65c_fastRemove_b59b0 43 = .ok (.return_, 1) := by decide +kernel
theorem dJ7_copyOf_1904c_0 : decode cJ7_copyOf_1904c 0 = .ok (.aload_n 0, 1) := by decide +kernel
theorem dJ7_copyOf_1904c_1 : decode cJ7_copyOf_1904c 1 = .ok (.iload_n 1, 1) := by decide +kernel
theorem dJ7_copyOf_1904c_2 : decode cJ7_copyOf_1904c 2 = .ok (.aload_n 0, 1) := by decide +kernel
theorem dJ7_copyOf_1904c_3 : decode cJ7_copyOf_1904c 3 = .ok (.invokevirtual 86, 3) := by decide +kernel
theorem dJ7_copyOf_1904c_6 : decode cJ7_copyOf_1904c 6 = .ok (.invokestatic 300, 3) := by decide +kernel
theorem dJ7_copyOf_1904c_9 : decode cJ7_copyOf_1904c 9 = .ok (.areturn, 1) := by decide +kernel
theorem dJ7_copyOf_6403c_0 : decode cJ7_copyOf_6403c 0 = .ok (.aload_n 2, 1) := by decide +kernel
theorem dJ7_copyOf_6403c_1 : decode cJ7_copyOf_6403c 1 = .ok (.ldc 110, 2) := by decide +kernel
theorem dJ7_copyOf_6403c_3 : decode cJ7_copyOf_6403c 3 = .ok (.if_acmp .ne 10, 3) := by decide +kernel
theorem dJ7_copyOf_6403c_6 : decode cJ7_copyOf_6403c 6 = .ok (.iload_n 1, 1) := by decide +kernel
theorem dJ7_copyOf_6403c_7 : decode cJ7_copyOf_6403c 7 = .ok (.anewarray 2, 3) := by decide +kernel
theorem dJ7_copyOf_6403c_10 : decode cJ7_copyOf_6403c 10 = .ok (.goto 14, 3) := by decide +kernel
theorem dJ7_copyOf_6403c_13 : decode cJ7_copyOf_6403c 13 = .ok (.aload_n 2, 1) := by decide +kernel
theorem dJ7_copyOf_6403c_14 : decode cJ7_copyOf_6403c 14 = .ok (.invokevirtual 90, 3) := by decide +kernel
theorem dJ7_copyOf_6403c_17 : decode cJ7_copyOf_6403c 17 = .ok (.iload_n 1, 1) := by decide +kernel
theorem dJ7_copyOf_6403c_18 : decode cJ7_copyOf_6403c 18 = .ok (.invokestatic 95, 3) := by decide +kernel
theorem dJ7_copyOf_6403c_21 : decode cJ7_copyOf_6403c 21 = .ok (.checkcast 110, 3) := by decide +kernel
theorem dJ7_copyOf_6403c_24 : decode cJ7_copyOf_6403c 24 = .ok (.astore_n 3, 1) := by decide +kernel
theorem dJ7_copyOf_6403c_25 : decode cJ7_copyOf_6403c 25 = .ok (.aload_n 0, 1) := by decide +kernel
theorem dJ7_copyOf_6403c_26 : decode cJ7_copyOf_6403c 26 = .ok (.iconst 0, 1) := by decide +kernel
theorem dJ7_copyOf_6403c_27 : decode cJ7_copyOf_6403c 27 = .ok (.aload_n 3, 1) := by decide +kernel
theorem dJ7_copyOf_6403c_28 : decode cJ7_copyOf_6403c 28 = .ok (.iconst 0, 1) := by decide +kernel
theorem dJ7_copyOf_6403c_29 : decode cJ7_copyOf_6403c 29 = .ok (.aload_n 0, 1) := by decide +kernel
theorem dJ7_copyOf_6403c_30 : decode cJ7_copyOf_6403c 30 = .ok (.arraylength, 1) := by decide +kernel
theorem dJ7_copyOf_6403c_31 : decode cJ7_copyOf_6403c 31 = .ok (.iload_n 1, 1) := by decide +kernel
theorem dJ7_copyOf_6403c_32 : decode cJ7_copyOf_6403c 32 = .ok (.invokestatic 304, 3) := by decide +kernel
theorem dJ7_copyOf_6403c_35 : decode cJ7_copyOf_6403c 35 = .ok (.invokestatic 150, 3) := by decide +kernel
theorem dJ7_copyOf_6403c_38 : decode cJ7_copyOf_6403c 38 = .ok (.aload_n 3, 1) := by decide +kernel
theorem dJ7_copyOf_6403c_39 : decode cJ7_copyOf_6403c 39 = .ok (.areturn, 1) := by decide +kernel
theorem dJ15_checkIndex_7cf53_0 : decode cJ15_checkIndex_7cf53 0 = .ok (.iload_n 0, 1) := by decide +kernel
theorem dJ15_checkIndex_7cf53_1 : decode cJ15_checkIndex_7cf53 1 = .ok (.iload_n 1, 1) := by decide +kernel
theorem dJ15_checkIndex_7cf53_2 : decode cJ15_checkIndex_7cf53 2 = .ok (.aconst_null, 1) := by decide +kernel
theorem dJ15_checkIndex_7cf53_3 : decode cJ15_checkIndex_7cf53 3 = .ok (.invokestatic 105, 3) := by decide +kernel
theorem dJ15_checkIndex_7cf53_6 : decode cJ15_checkIndex_7cf53 6 = .ok (.ireturn, 1) := by decide +kernel
theorem dJ8_newLength_cabcc_0 : decode cJ8_newLength_cabcc 0 = .ok (.iload_n 0, 1) := by decide +kernel
theorem dJ8_newLength_cabcc_1 : decode cJ8_newLength_cabcc 1 = .ok (.iload_n 1, 1) := by decide +kernel
theorem dJ8_newLength_cabcc_2 : decode cJ8_newLength_cabcc 2 = .ok (.iload_n 2, 1) := by decide +kernel
theorem dJ8_newLength_cabcc_3 : decode cJ8_newLength_cabcc 3 = .ok (.invokestatic 194, 3) := by decide +kernel
theorem dJ8_newLength_cabcc_6 : decode cJ8_newLength_cabcc 6 = .ok (.iadd, 1) := by decide +kernel
theorem dJ8_newLength_cabcc_7 : decode cJ8_newLength_cabcc 7 = .ok (.istore_n 3, 1) := by decide +kernel
theorem dJ8_newLength_cabcc_8 : decode cJ8_newLength_cabcc 8 = .ok (.iconst 0, 1) := by decide +kernel
theorem dJ8_newLength_cabcc_9 : decode cJ8_newLength_cabcc 9 = .ok (.iload_n 3, 1) := by decide +kernel
theorem dJ8_newLength_cabcc_10 : decode cJ8_newLength_cabcc 10 = .ok (.if_icmp .ge 11, 3) := by decide +kernel
theorem dJ8_newLength_cabcc_13 : decode cJ8_newLength_cabcc 13 = .ok (.iload_n 3, 1) := by decide +kernel
theorem dJ8_newLength_cabcc_14 : decode cJ8_newLength_cabcc 14 = .ok (.ldc 200, 2) := by decide +kernel
theorem dJ8_newLength_cabcc_16 : decode cJ8_newLength_cabcc 16 = .ok (.if_icmp .gt 5, 3) := by decide +kernel
theorem dJ8_newLength_cabcc_19 : decode cJ8_newLength_cabcc 19 = .ok (.iload_n 3, 1) := by decide +kernel
theorem dJ8_newLength_cabcc_20 : decode cJ8_newLength_cabcc 20 = .ok (.ireturn, 1) := by decide +kernel
theorem dJ8_newLength_cabcc_21 : decode cJ8_newLength_cabcc 21 = .ok (.iload_n 0, 1) := by decide +kernel
theorem dJ8_newLength_cabcc_22 : decode cJ8_newLength_cabcc 22 = .ok (.iload_n 1, 1) := by decide +kernel
theorem dJ8_newLength_cabcc_23 : decode cJ8_newLength_cabcc 23 = .ok (.invokestatic 201, 3) := by decide +kernel
theorem dJ8_newLength_cabcc_26 : decode cJ8_newLength_cabcc 26 = .ok (.ireturn, 1) := by decide +kernel
theorem dJ8_hugeLength_7cf53_0 : decode cJ8_hugeLength_7cf53 0 = .ok (.iload_n 0, 1) := by decide +kernel
theorem dJ8_hugeLength_7cf53_1 : decode cJ8_hugeLength_7cf53 1 = .ok (.iload_n 1, 1) := by decide +kernel
theorem dJ8_hugeLength_7cf53_2 : decode cJ8_hugeLength_7cf53 2 = .ok (.iadd, 1) := by decide +kernel
theorem dJ8_hugeLength_7cf53_3 : decode cJ8_hugeLength_7cf53 3 = .ok (.istore_n 2, 1) := by decide +kernel
theorem dJ8_hugeLength_7cf53_4 : decode cJ8_hugeLength_7cf53 4 = .ok (.iload_n 2, 1) := by decide +kernel
theorem dJ8_hugeLength_7cf53_5 : decode cJ8_hugeLength_7cf53 5 = .ok (.ifCond .ge 44, 3) := by decide +kernel
theorem dJ8_hugeLength_7cf53_8 : decode cJ8_hugeLength_7cf53 8 = .ok (.new 204, 3) := by decide +kernel
theorem dJ8_hugeLength_7cf53_11 : decode cJ8_hugeLength_7cf53 11 = .ok (.dup, 1) := by decide +kernel
theorem dJ8_hugeLength_7cf53_12 : decode cJ8_hugeLength_7cf53 12 = .ok (.new 89, 3) := by decide +kernel
theorem dJ8_hugeLength_7cf53_15 : decode cJ8_hugeLength_7cf53 15 = .ok (.dup, 1) := by decide +kernel
theorem dJ8_hugeLength_7cf53_16 : decode cJ8_hugeLength_7cf53 16 = .ok (.invokespecial 91, 3) := by decide +kernel
theorem dJ8_hugeLength_7cf53_19 : decode cJ8_hugeLength_7cf53 19 = .ok (.ldc 206, 2) := by decide +kernel
theorem dJ8_hugeLength_7cf53_21 : decode cJ8_hugeLength_7cf53 21 = .ok (.invokevirtual 94, 3) := by decide +kernel
theorem dJ8_hugeLength_7cf53_24 : decode cJ8_hugeLength_7cf53 24 = .ok (.iload_n 0, 1) := by decide +kernel
theorem dJ8_hugeLength_7cf53_25 : decode cJ8_hugeLength_7cf53 25 = .ok (.invokevirtual 98, 3) := by decide +kernel
theorem dJ8_hugeLength_7cf53_28 : decode cJ8_hugeLength_7cf53 28 = .ok (.ldc 208, 2) := by decide +kernel
theorem dJ8_hugeLength_7cf53_30 : decode cJ8_hugeLength_7cf53 30 = .ok (.invokevirtual 94, 3) := by decide +kernel
theorem dJ8_hugeLength_7cf53_33 : decode cJ8_hugeLength_7cf53 33 = .ok (.iload_n 1, 1) := by decide +kernel
theorem dJ8_hugeLength_7cf53_34 : decode cJ8_hugeLength_7cf53 34 = .ok (.invokevirtual 98, 3) := by decide +kernel
theorem dJ8_hugeLength_7cf53_37 : decode cJ8_hugeLength_7cf53 37 = .ok (.ldc 210, 2) := by decide +kernel
theorem dJ8_hugeLength_7cf53_39 : decode cJ8_hugeLength_7cf53 39 = .ok (.invokevirtual 94, 3) := by decide +kernel
theorem dJ8_hugeLength_7cf53_42 : decode cJ8_hugeLength_7cf53 42 = .ok (.invokevirtual 101, 3) := by decide +kernel
theorem dJ8_hugeLength_7cf53_45 : decode cJ8_hugeLength_7cf53 45 = .ok (.invokespecial 212, 3) := by decide +kernel
theorem dJ8_hugeLength_7cf53_48 : decode cJ8_hugeLength_7cf53 48 = .ok (.athrow, 1) := by decide +kernel
theorem dJ8_hugeLength_7cf53_49 : decode cJ8_hugeLength_7cf53 49 = .ok (.iload_n 2, 1) := by decide +kernel
theorem dJ8_hugeLength_7cf53_50 : decode cJ8_hugeLength_7cf53 50 = .ok (.ldc 200, 2) := by decide +kernel
theorem dJ8_hugeLength_7cf53_52 : decode cJ8_hugeLength_7cf53 52 = .ok (.if_icmp .gt 6, 3) := by decide +kernel
theorem dJ8_hugeLength_7cf53_55 : decode cJ8_hugeLength_7cf53 55 = .ok (.ldc 200, 2) := by decide +kernel
theorem dJ8_hugeLength_7cf53_57 : decode cJ8_hugeLength_7cf53 57 = .ok (.ireturn, 1) := by decide +kernel
theorem dJ8_hugeLength_7cf53_58 : decode cJ8_hugeLength_7cf53 58 = .ok (.iload_n 2, 1) := by decide +kernel
theorem dJ8_hugeLength_7cf53_59 : decode cJ8_hugeLength_7cf53 59 = .ok (.ireturn, 1) := by decide +kernel
theorem dJ3_checkIndex_8e157_0 : decode cJ3_checkIndex_8e157 0 = .ok (.iload_n 0, 1) := by decide +kernel
theorem dJ3_checkIndex_8e157_1 : decode cJ3_checkIndex_8e157 1 = .ok (.ifCond .lt 8, 3) := by decide +kernel
theorem dJ3_checkIndex_8e157_4 : decode cJ3_checkIndex_8e157 4 = .ok (.iload_n 0, 1) := by decide +kernel
theorem dJ3_checkIndex_8e157_5 : decode cJ3_checkIndex_8e157 5 = .ok (.iload_n 1, 1) := by decide +kernel
theorem dJ3_checkIndex_8e157_6 : decode cJ3_checkIndex_8e157 6 = .ok (.if_icmp .lt 10, 3) := by decide +kernel
theorem dJ3_checkIndex_8e157_9 : decode cJ3_checkIndex_8e157 9 = .ok (.aload_n 2, 1) := by decide +kernel
theorem dJ3_checkIndex_8e157_10 : decode cJ3_checkIndex_8e157 10 = .ok (.iload_n 0, 1) := by decide +kernel
theorem dJ3_checkIndex_8e157_11 : decode cJ3_checkIndex_8e157 11 = .ok (.iload_n 1, 1) := by decide +kernel
theorem dJ3_checkIndex_8e157_12 : decode cJ3_checkIndex_8e157 12 = .ok (.invokestatic 95, 3) := by decide +kernel
theorem dJ3_checkIndex_8e157_15 : decode cJ3_checkIndex_8e157 15 = .ok (.athrow, 1) := by decide +kernel
theorem dJ3_checkIndex_8e157_16 : decode cJ3_checkIndex_8e157 16 = .ok (.iload_n 0, 1) := by decide +kernel
theorem dJ3_checkIndex_8e157_17 : decode cJ3_checkIndex_8e157 17 = .ok (.ireturn, 1) := by decide +kernel
theorem dL_below_0 : decode cL_below 0 = .ok (.iload_n 0, 1) := by decide +kernel
theorem dL_below_1 : decode cL_below 1 = .ok (.ldc 7, 2) := by decide +kernel
theorem dL_below_3 : decode cL_below 3 = .ok (.iand, 1) := by decide +kernel
theorem dL_below_4 : decode cL_below 4 = .ok (.iload_n 1, 1) := by decide +kernel
theorem dL_below_5 : decode cL_below 5 = .ok (.irem, 1) := by decide +kernel
theorem dL_below_6 : decode cL_below 6 = .ok (.ireturn, 1) := by decide +kernel
theorem dL_cell_0 : decode cL_cell 0 = .ok (.iload_n 1, 1) := by decide +kernel
theorem dL_cell_1 : decode cL_cell 1 = .ok (.aload_n 0, 1) := by decide +kernel
theorem dL_cell_2 : decode cL_cell 2 = .ok (.arraylength, 1) := by decide +kernel
theorem dL_cell_3 : decode cL_cell 3 = .ok (.if_icmp .ge 9, 3) := by decide +kernel
theorem dL_cell_6 : decode cL_cell 6 = .ok (.aload_n 0, 1) := by decide +kernel
theorem dL_cell_7 : decode cL_cell 7 = .ok (.iload_n 1, 1) := by decide +kernel
theorem dL_cell_8 : decode cL_cell 8 = .ok (.iaload, 1) := by decide +kernel
theorem dL_cell_9 : decode cL_cell 9 = .ok (.goto 9, 3) := by decide +kernel
theorem dL_cell_12 : decode cL_cell 12 = .ok (.ldc 8, 2) := by decide +kernel
theorem dL_cell_14 : decode cL_cell 14 = .ok (.iload_n 1, 1) := by decide +kernel
theorem dL_cell_15 : decode cL_cell 15 = .ok (.iconst 3, 1) := by decide +kernel
theorem dL_cell_16 : decode cL_cell 16 = .ok (.iadd, 1) := by decide +kernel
theorem dL_cell_17 : decode cL_cell 17 = .ok (.imul, 1) := by decide +kernel
theorem dL_cell_18 : decode cL_cell 18 = .ok (.ireturn, 1) := by decide +kernel
theorem dL_law_0 : decode cL_law 0 = .ok (.new 9, 3) := by decide +kernel
theorem dL_law_3 : decode cL_law 3 = .ok (.dup, 1) := by decide +kernel
theorem dL_law_4 : decode cL_law 4 = .ok (.invokespecial 11, 3) := by decide +kernel
theorem dL_law_7 : decode cL_law 7 = .ok (.astore_n 1, 1) := by decide +kernel
theorem dL_law_8 : decode cL_law 8 = .ok (.iconst 0, 1) := by decide +kernel
theorem dL_law_9 : decode cL_law 9 = .ok (.istore_n 2, 1) := by decide +kernel
theorem dL_law_10 : decode cL_law 10 = .ok (.iload_n 2, 1) := by decide +kernel
theorem dL_law_11 : decode cL_law 11 = .ok (.iconst 3, 1) := by decide +kernel
theorem dL_law_12 : decode cL_law 12 = .ok (.if_icmp .ge 37, 3) := by decide +kernel
theorem dL_law_15 : decode cL_law 15 = .ok (.aload_n 1, 1) := by decide +kernel
theorem dL_law_16 : decode cL_law 16 = .ok (.invokevirtual 12, 3) := by decide +kernel
theorem dL_law_19 : decode cL_law 19 = .ok (.iload_n 2, 1) := by decide +kernel
theorem dL_law_20 : decode cL_law 20 = .ok (.if_icmp .ne 21, 3) := by decide +kernel
theorem dL_law_23 : decode cL_law 23 = .ok (.aload_n 1, 1) := by decide +kernel
theorem dL_law_24 : decode cL_law 24 = .ok (.aload_n 0, 1) := by decide +kernel
theorem dL_law_25 : decode cL_law 25 = .ok (.iload_n 2, 1) := by decide +kernel
theorem dL_law_26 : decode cL_law 26 = .ok (.invokestatic 16, 3) := by decide +kernel
theorem dL_law_29 : decode cL_law 29 = .ok (.bipush 10, 2) := by decide +kernel
theorem dL_law_31 : decode cL_law 31 = .ok (.invokestatic 22, 3) := by decide +kernel
theorem dL_law_34 : decode cL_law 34 = .ok (.invokevirtual 26, 3) := by decide +kernel
theorem dL_law_37 : decode cL_law 37 = .ok (.iload_n 2, 1) := by decide +kernel
theorem dL_law_38 : decode cL_law 38 = .ok (.if_icmp .eq 5, 3) := by decide +kernel
theorem dL_law_41 : decode cL_law 41 = .ok (.iconst 0, 1) := by decide +kernel
theorem dL_law_42 : decode cL_law 42 = .ok (.ireturn, 1) := by decide +kernel
theorem dL_law_43 : decode cL_law 43 = .ok (.iinc 2 1, 3) := by decide +kernel
theorem dL_law_46 : decode cL_law 46 = .ok (.goto (-36), 3) := by decide +kernel
theorem dL_law_49 : decode cL_law 49 = .ok (.iconst 0, 1) := by decide +kernel
theorem dL_law_50 : decode cL_law 50 = .ok (.istore_n 2, 1) := by decide +kernel
theorem dL_law_51 : decode cL_law 51 = .ok (.iload_n 2, 1) := by decide +kernel
theorem dL_law_52 : decode cL_law 52 = .ok (.bipush 6, 2) := by decide +kernel
theorem dL_law_54 : decode cL_law 54 = .ok (.if_icmp .ge 46, 3) := by decide +kernel
theorem dL_law_57 : decode cL_law 57 = .ok (.aload_n 1, 1) := by decide +kernel
theorem dL_law_58 : decode cL_law 58 = .ok (.iload_n 2, 1) := by decide +kernel
theorem dL_law_59 : decode cL_law 59 = .ok (.iconst 3, 1) := by decide +kernel
theorem dL_law_60 : decode cL_law 60 = .ok (.irem, 1) := by decide +kernel
theorem dL_law_61 : decode cL_law 61 = .ok (.aload_n 0, 1) := by decide +kernel
theorem dL_law_62 : decode cL_law 62 = .ok (.iload_n 2, 1) := by decide +kernel
theorem dL_law_63 : decode cL_law 63 = .ok (.iconst 3, 1) := by decide +kernel
theorem dL_law_64 : decode cL_law 64 = .ok (.iadd, 1) := by decide +kernel
theorem dL_law_65 : decode cL_law 65 = .ok (.invokestatic 16, 3) := by decide +kernel
theorem dL_law_68 : decode cL_law 68 = .ok (.iconst 3, 1) := by decide +kernel
theorem dL_law_69 : decode cL_law 69 = .ok (.invokestatic 22, 3) := by decide +kernel
theorem dL_law_72 : decode cL_law 72 = .ok (.bipush 100, 2) := by decide +kernel
theorem dL_law_74 : decode cL_law 74 = .ok (.aload_n 0, 1) := by decide +kernel
theorem dL_law_75 : decode cL_law 75 = .ok (.iload_n 2, 1) := by decide +kernel
theorem dL_law_76 : decode cL_law 76 = .ok (.invokestatic 16, 3) := by decide +kernel
theorem dL_law_79 : decode cL_law 79 = .ok (.bipush 101, 2) := by decide +kernel
theorem dL_law_81 : decode cL_law 81 = .ok (.invokestatic 22, 3) := by decide +kernel
theorem dL_law_84 : decode cL_law 84 = .ok (.iadd, 1) := by decide +kernel
theorem dL_law_85 : decode cL_law 85 = .ok (.invokevirtual 30, 3) := by decide +kernel
theorem dL_law_88 : decode cL_law 88 = .ok (.iload_n 2, 1) := by decide +kernel
theorem dL_law_89 : decode cL_law 89 = .ok (.if_icmp .eq 5, 3) := by decide +kernel
theorem dL_law_92 : decode cL_law 92 = .ok (.iconst 0, 1) := by decide +kernel
theorem dL_law_93 : decode cL_law 93 = .ok (.ireturn, 1) := by decide +kernel
theorem dL_law_94 : decode cL_law 94 = .ok (.iinc 2 1, 3) := by decide +kernel
theorem dL_law_97 : decode cL_law 97 = .ok (.goto (-46), 3) := by decide +kernel
theorem dL_law_100 : decode cL_law 100 = .ok (.iconst 0, 1) := by decide +kernel
theorem dL_law_101 : decode cL_law 101 = .ok (.istore_n 2, 1) := by decide +kernel
theorem dL_law_102 : decode cL_law 102 = .ok (.iload_n 2, 1) := by decide +kernel
theorem dL_law_103 : decode cL_law 103 = .ok (.bipush 9, 2) := by decide +kernel
theorem dL_law_105 : decode cL_law 105 = .ok (.if_icmp .ge 85, 3) := by decide +kernel
theorem dL_law_108 : decode cL_law 108 = .ok (.aload_n 0, 1) := by decide +kernel
theorem dL_law_109 : decode cL_law 109 = .ok (.iload_n 2, 1) := by decide +kernel
theorem dL_law_110 : decode cL_law 110 = .ok (.iconst 1, 1) := by decide +kernel
theorem dL_law_111 : decode cL_law 111 = .ok (.iadd, 1) := by decide +kernel
theorem dL_law_112 : decode cL_law 112 = .ok (.invokestatic 16, 3) := by decide +kernel
theorem dL_law_115 : decode cL_law 115 = .ok (.iconst 3, 1) := by decide +kernel
theorem dL_law_116 : decode cL_law 116 = .ok (.iload_n 2, 1) := by decide +kernel
theorem dL_law_117 : decode cL_law 117 = .ok (.imul, 1) := by decide +kernel
theorem dL_law_118 : decode cL_law 118 = .ok (.iadd, 1) := by decide +kernel
theorem dL_law_119 : decode cL_law 119 = .ok (.istore_n 3, 1) := by decide +kernel
theorem dL_law_120 : decode cL_law 120 = .ok (.aload_n 1, 1) := by decide +kernel
theorem dL_law_121 : decode cL_law 121 = .ok (.iload_n 2, 1) := by decide +kernel
theorem dL_law_122 : decode cL_law 122 = .ok (.iconst 3, 1) := by decide +kernel
theorem dL_law_123 : decode cL_law 123 = .ok (.irem, 1) := by decide +kernel
theorem dL_law_124 : decode cL_law 124 = .ok (.iload_n 3, 1) := by decide +kernel
theorem dL_law_125 : decode cL_law 125 = .ok (.iconst 3, 1) := by decide +kernel
theorem dL_law_126 : decode cL_law 126 = .ok (.invokestatic 22, 3) := by decide +kernel
theorem dL_law_129 : decode cL_law 129 = .ok (.iconst 1, 1) := by decide +kernel
theorem dL_law_130 : decode cL_law 130 = .ok (.iload_n 3, 1) := by decide +kernel
theorem dL_law_131 : decode cL_law 131 = .ok (.iconst 3, 1) := by decide +kernel
theorem dL_law_132 : decode cL_law 132 = .ok (.ishr, 1) := by decide +kernel
theorem dL_law_133 : decode cL_law 133 = .ok (.iconst 2, 1) := by decide +kernel
theorem dL_law_134 : decode cL_law 134 = .ok (.invokestatic 22, 3) := by decide +kernel
theorem dL_law_137 : decode cL_law 137 = .ok (.iadd, 1) := by decide +kernel
theorem dL_law_138 : decode cL_law 138 = .ok (.iload_n 3, 1) := by decide +kernel
theorem dL_law_139 : decode cL_law 139 = .ok (.iconst 2, 1) := by decide +kernel
theorem dL_law_140 : decode cL_law 140 = .ok (.ishr, 1) := by decide +kernel
theorem dL_law_141 : decode cL_law 141 = .ok (.bipush 50, 2) := by decide +kernel
theorem dL_law_143 : decode cL_law 143 = .ok (.invokestatic 22, 3) := by decide +kernel
theorem dL_law_146 : decode cL_law 146 = .ok (.iload_n 3, 1) := by decide +kernel
theorem dL_law_147 : decode cL_law 147 = .ok (.iconst 4, 1) := by decide +kernel
theorem dL_law_148 : decode cL_law 148 = .ok (.ishr, 1) := by decide +kernel
theorem dL_law_149 : decode cL_law 149 = .ok (.bipush 56, 2) := by decide +kernel
theorem dL_law_151 : decode cL_law 151 = .ok (.invokestatic 22, 3) := by decide +kernel
theorem dL_law_154 : decode cL_law 154 = .ok (.iconst 1, 1) := by decide +kernel
theorem dL_law_155 : decode cL_law 155 = .ok (.iload_n 3, 1) := by decide +kernel
theorem dL_law_156 : decode cL_law 156 = .ok (.iconst 5, 1) := by decide +kernel
theorem dL_law_157 : decode cL_law 157 = .ok (.ishr, 1) := by decide +kernel
theorem dL_law_158 : decode cL_law 158 = .ok (.bipush 99, 2) := by decide +kernel
theorem dL_law_160 : decode cL_law 160 = .ok (.invokestatic 22, 3) := by decide +kernel
theorem dL_law_163 : decode cL_law 163 = .ok (.iadd, 1) := by decide +kernel
theorem dL_law_164 : decode cL_law 164 = .ok (.iconst 1, 1) := by decide +kernel
theorem dL_law_165 : decode cL_law 165 = .ok (.iload_n 3, 1) := by decide +kernel
theorem dL_law_166 : decode cL_law 166 = .ok (.bipush 7, 2) := by decide +kernel
theorem dL_law_168 : decode cL_law 168 = .ok (.ishr, 1) := by decide +kernel
theorem dL_law_169 : decode cL_law 169 = .ok (.bipush 90, 2) := by decide +kernel
theorem dL_law_171 : decode cL_law 171 = .ok (.invokestatic 22, 3) := by decide +kernel
theorem dL_law_174 : decode cL_law 174 = .ok (.iadd, 1) := by decide +kernel
theorem dL_law_175 : decode cL_law 175 = .ok (.invokevirtual 34, 3) := by decide +kernel
theorem dL_law_178 : decode cL_law 178 = .ok (.iload_n 2, 1) := by decide +kernel
theorem dL_law_179 : decode cL_law 179 = .ok (.if_icmp .eq 5, 3) := by decide +kernel
theorem dL_law_182 : decode cL_law 182 = .ok (.iconst 0, 1) := by decide +kernel
theorem dL_law_183 : decode cL_law 183 = .ok (.ireturn, 1) := by decide +kernel
theorem dL_law_184 : decode cL_law 184 = .ok (.iinc 2 1, 3) := by decide +kernel
theorem dL_law_187 : decode cL_law 187 = .ok (.goto (-85), 3) := by decide +kernel
theorem dL_law_190 : decode cL_law 190 = .ok (.iconst 0, 1) := by decide +kernel
theorem dL_law_191 : decode cL_law 191 = .ok (.istore_n 2, 1) := by decide +kernel
theorem dL_law_192 : decode cL_law 192 = .ok (.iconst 0, 1) := by decide +kernel
theorem dL_law_193 : decode cL_law 193 = .ok (.istore_n 3, 1) := by decide +kernel
theorem dL_law_194 : decode cL_law 194 = .ok (.iconst 0, 1) := by decide +kernel
theorem dL_law_195 : decode cL_law 195 = .ok (.istore 4, 2) := by decide +kernel
theorem dL_law_197 : decode cL_law 197 = .ok (.iconst 0, 1) := by decide +kernel
theorem dL_law_198 : decode cL_law 198 = .ok (.istore 5, 2) := by decide +kernel
theorem dL_law_200 : decode cL_law 200 = .ok (.iload 5, 2) := by decide +kernel
theorem dL_law_202 : decode cL_law 202 = .ok (.bipush 44, 2) := by decide +kernel
theorem dL_law_204 : decode cL_law 204 = .ok (.if_icmp .ge 882, 3) := by decide +kernel
theorem dL_law_207 : decode cL_law 207 = .ok (.aload_n 0, 1) := by decide +kernel
theorem dL_law_208 : decode cL_law 208 = .ok (.iload 5, 2) := by decide +kernel
theorem dL_law_210 : decode cL_law 210 = .ok (.bipush 16, 2) := by decide +kernel
theorem dL_law_212 : decode cL_law 212 = .ok (.irem, 1) := by decide +kernel
theorem dL_law_213 : decode cL_law 213 = .ok (.invokestatic 16, 3) := by decide +kernel
theorem dL_law_216 : decode cL_law 216 = .ok (.bipush 37, 2) := by decide +kernel
theorem dL_law_218 : decode cL_law 218 = .ok (.iload 5, 2) := by decide +kernel
theorem dL_law_220 : decode cL_law 220 = .ok (.imul, 1) := by decide +kernel
theorem dL_law_221 : decode cL_law 221 = .ok (.iadd, 1) := by decide +kernel
theorem dL_law_222 : decode cL_law 222 = .ok (.istore 6, 2) := by decide +kernel
theorem dL_law_224 : decode cL_law 224 = .ok (.aload_n 0, 1) := by decide +kernel
theorem dL_law_225 : decode cL_law 225 = .ok (.iconst 3, 1) := by decide +kernel
theorem dL_law_226 : decode cL_law 226 = .ok (.iload 5, 2) := by decide +kernel
theorem dL_law_228 : decode cL_law 228 = .ok (.imul, 1) := by decide +kernel
theorem dL_law_229 : decode cL_law 229 = .ok (.iconst 5, 1) := by decide +kernel
theorem dL_law_230 : decode cL_law 230 = .ok (.iadd, 1) := by decide +kernel
theorem dL_law_231 : decode cL_law 231 = .ok (.bipush 16, 2) := by decide +kernel
theorem dL_law_233 : decode cL_law 233 = .ok (.irem, 1) := by decide +kernel
theorem dL_law_234 : decode cL_law 234 = .ok (.invokestatic 16, 3) := by decide +kernel
theorem dL_law_237 : decode cL_law 237 = .ok (.bipush 11, 2) := by decide +kernel
theorem dL_law_239 : decode cL_law 239 = .ok (.iload 5, 2) := by decide +kernel
theorem dL_law_241 : decode cL_law 241 = .ok (.imul, 1) := by decide +kernel
theorem dL_law_242 : decode cL_law 242 = .ok (.iadd, 1) := by decide +kernel
theorem dL_law_243 : decode cL_law 243 = .ok (.istore 7, 2) := by decide +kernel
theorem dL_law_245 : decode cL_law 245 = .ok (.iload 7, 2) := by decide +kernel
theorem dL_law_247 : decode cL_law 247 = .ok (.iconst 3, 1) := by decide +kernel
theorem dL_law_248 : decode cL_law 248 = .ok (.invokestatic 22, 3) := by decide +kernel
theorem dL_law_251 : decode cL_law 251 = .ok (.istore 8, 2) := by decide +kernel
theorem dL_law_253 : decode cL_law 253 = .ok (.aload_n 1, 1) := by decide +kernel
theorem dL_law_254 : decode cL_law 254 = .ok (.iconst 3, 1) := by decide +kernel
theorem dL_law_255 : decode cL_law 255 = .ok (.invokevirtual 38, 3) := by decide +kernel
theorem dL_law_258 : decode cL_law 258 = .ok (.ifCond .ne 7, 3) := by decide +kernel
theorem dL_law_261 : decode cL_law 261 = .ok (.iconst (-1), 1) := by decide +kernel
theorem dL_law_262 : decode cL_law 262 = .ok (.goto 15, 3) := by decide +kernel
theorem dL_law_265 : decode cL_law 265 = .ok (.iload 7, 2) := by decide +kernel
theorem dL_law_267 : decode cL_law 267 = .ok (.iconst 2, 1) := by decide +kernel
theorem dL_law_268 : decode cL_law 268 = .ok (.ishr, 1) := by decide +kernel
theorem dL_law_269 : decode cL_law 269 = .ok (.aload_n 1, 1) := by decide +kernel
theorem dL_law_270 : decode cL_law 270 = .ok (.iconst 3, 1) := by decide +kernel
theorem dL_law_271 : decode cL_law 271 = .ok (.invokevirtual 38, 3) := by decide +kernel
theorem dL_law_274 : decode cL_law 274 = .ok (.invokestatic 22, 3) := by decide +kernel
theorem dL_law_277 : decode cL_law 277 = .ok (.istore 9, 2) := by decide +kernel
theorem dL_law_279 : decode cL_law 279 = .ok (.iload 9, 2) := by decide +kernel
theorem dL_law_281 : decode cL_law 281 = .ok (.ifCond .ge 7, 3) := by decide +kernel
theorem dL_law_284 : decode cL_law 284 = .ok (.iconst (-1), 1) := by decide +kernel
theorem dL_law_285 : decode cL_law 285 = .ok (.goto 11, 3) := by decide +kernel
theorem dL_law_288 : decode cL_law 288 = .ok (.aload_n 1, 1) := by decide +kernel
theorem dL_law_289 : decode cL_law 289 = .ok (.iload 9, 2) := by decide +kernel
theorem dL_law_291 : decode cL_law 291 = .ok (.bipush 7, 2) := by decide +kernel
theorem dL_law_293 : decode cL_law 293 = .ok (.invokevirtual 41, 3) := by decide +kernel
theorem dL_law_296 : decode cL_law 296 = .ok (.istore 10, 2) := by decide +kernel
theorem dL_law_298 : decode cL_law 298 = .ok (.iload 6, 2) := by decide +kernel
theorem dL_law_300 : decode cL_law 300 = .ok (.bipush 16, 2) := by decide +kernel
theorem dL_law_302 : decode cL_law 302 = .ok (.invokestatic 22, 3) := by decide +kernel
theorem dL_law_305 : decode cL_law 305 = .ok (.tableswitch 702 0 13 #[71, 95, 95, 95, 209, 209, 277, 294, 357, 357, 375, 466, 526, 658], 71) := by decide +kernel
theorem dL_law_376 : decode cL_law 376 = .ok (.aload_n 1, 1) := by decide +kernel
theorem dL_law_377 : decode cL_law 377 = .ok (.iload 7, 2) := by decide +kernel
theorem dL_law_379 : decode cL_law 379 = .ok (.iconst 3, 1) := by decide +kernel
theorem dL_law_380 : decode cL_law 380 = .ok (.invokestatic 22, 3) := by decide +kernel
theorem dL_law_383 : decode cL_law 383 = .ok (.iload 6, 2) := by decide +kernel
theorem dL_law_385 : decode cL_law 385 = .ok (.iconst 4, 1) := by decide +kernel
theorem dL_law_386 : decode cL_law 386 = .ok (.ishr, 1) := by decide +kernel
theorem dL_law_387 : decode cL_law 387 = .ok (.iconst 4, 1) := by decide +kernel
theorem dL_law_388 : decode cL_law 388 = .ok (.invokestatic 22, 3) := by decide +kernel
theorem dL_law_391 : decode cL_law 391 = .ok (.invokevirtual 44, 3) := by decide +kernel
theorem dL_law_394 : decode cL_law 394 = .ok (.iconst 3, 1) := by decide +kernel
theorem dL_law_395 : decode cL_law 395 = .ok (.if_icmp .le 672, 3) := by decide +kernel
theorem dL_law_398 : decode cL_law 398 = .ok (.iconst 0, 1) := by decide +kernel
theorem dL_law_399 : decode cL_law 399 = .ok (.ireturn, 1) := by decide +kernel
theorem dL_law_400 : decode cL_law 400 = .ok (.iload 6, 2) := by decide +kernel
theorem dL_law_402 : decode cL_law 402 = .ok (.iconst 4, 1) := by decide +kernel
theorem dL_law_403 : decode cL_law 403 = .ok (.ishr, 1) := by decide +kernel
theorem dL_law_404 : decode cL_law 404 = .ok (.bipush 6, 2) := by decide +kernel
theorem dL_law_406 : decode cL_law 406 = .ok (.invokestatic 22, 3) := by decide +kernel
theorem dL_law_409 : decode cL_law 409 = .ok (.istore 11, 2) := by decide +kernel
theorem dL_law_411 : decode cL_law 411 = .ok (.iconst 1, 1) := by decide +kernel
theorem dL_law_412 : decode cL_law 412 = .ok (.iload 7, 2) := by decide +kernel
theorem dL_law_414 : decode cL_law 414 = .ok (.iconst 3, 1) := by decide +kernel
theorem dL_law_415 : decode cL_law 415 = .ok (.ishr, 1) := by decide +kernel
theorem dL_law_416 : decode cL_law 416 = .ok (.bipush 60, 2) := by decide +kernel
theorem dL_law_418 : decode cL_law 418 = .ok (.invokestatic 22, 3) := by decide +kernel
theorem dL_law_421 : decode cL_law 421 = .ok (.iadd, 1) := by decide +kernel
theorem dL_law_422 : decode cL_law 422 = .ok (.istore 12, 2) := by decide +kernel
theorem dL_law_424 : decode cL_law 424 = .ok (.aload_n 1, 1) := by decide +kernel
theorem dL_law_425 : decode cL_law 425 = .ok (.iconst 3, 1) := by decide +kernel
theorem dL_law_426 : decode cL_law 426 = .ok (.invokevirtual 38, 3) := by decide +kernel
theorem dL_law_429 : decode cL_law 429 = .ok (.bipush 16, 2) := by decide +kernel
theorem dL_law_431 : decode cL_law 431 = .ok (.if_icmp .eq 636, 3) := by decide +kernel
theorem dL_law_434 : decode cL_law 434 = .ok (.aload_n 1, 1) := by decide +kernel
theorem dL_law_435 : decode cL_law 435 = .ok (.iload 11, 2) := by decide +kernel
theorem dL_law_437 : decode cL_law 437 = .ok (.iconst 4, 1) := by decide +kernel
theorem dL_law_438 : decode cL_law 438 = .ok (.invokevirtual 47, 3) := by decide +kernel
theorem dL_law_441 : decode cL_law 441 = .ok (.ifCond .eq 626, 3) := by decide +kernel
theorem dL_law_444 : decode cL_law 444 = .ok (.aload_n 1, 1) := by decide +kernel
theorem dL_law_445 : decode cL_law 445 = .ok (.iload 11, 2) := by decide +kernel
theorem dL_law_447 : decode cL_law 447 = .ok (.iconst 2, 1) := by decide +kernel
theorem dL_law_448 : decode cL_law 448 = .ok (.invokevirtual 47, 3) := by decide +kernel
theorem dL_law_451 : decode cL_law 451 = .ok (.iload 12, 2) := by decide +kernel
theorem dL_law_453 : decode cL_law 453 = .ok (.if_icmp .lt 614, 3) := by decide +kernel
theorem dL_law_456 : decode cL_law 456 = .ok (.aload_n 1, 1) := by decide +kernel
theorem dL_law_457 : decode cL_law 457 = .ok (.bipush 8, 2) := by decide +kernel
theorem dL_law_459 : decode cL_law 459 = .ok (.invokevirtual 38, 3) := by decide +kernel
theorem dL_law_462 : decode cL_law 462 = .ok (.iconst 3, 1) := by decide +kernel
theorem dL_law_463 : decode cL_law 463 = .ok (.if_icmp .ge 6, 3) := by decide +kernel
theorem dL_law_466 : decode cL_law 466 = .ok (.goto 601, 3) := by decide +kernel
theorem dL_law_469 : decode cL_law 469 = .ok (.aload_n 1, 1) := by decide +kernel
theorem dL_law_470 : decode cL_law 470 = .ok (.iload 11, 2) := by decide +kernel
theorem dL_law_472 : decode cL_law 472 = .ok (.iload 12, 2) := by decide +kernel
theorem dL_law_474 : decode cL_law 474 = .ok (.invokevirtual 50, 3) := by decide +kernel
theorem dL_law_477 : decode cL_law 477 = .ok (.aload_n 1, 1) := by decide +kernel
theorem dL_law_478 : decode cL_law 478 = .ok (.iconst 3, 1) := by decide +kernel
theorem dL_law_479 : decode cL_law 479 = .ok (.invokevirtual 38, 3) := by decide +kernel
theorem dL_law_482 : decode cL_law 482 = .ok (.iconst 1, 1) := by decide +kernel
theorem dL_law_483 : decode cL_law 483 = .ok (.isub, 1) := by decide +kernel
theorem dL_law_484 : decode cL_law 484 = .ok (.if_icmp .ne 20, 3) := by decide +kernel
theorem dL_law_487 : decode cL_law 487 = .ok (.aload_n 1, 1) := by decide +kernel
theorem dL_law_488 : decode cL_law 488 = .ok (.aload_n 1, 1) := by decide +kernel
theorem dL_law_489 : decode cL_law 489 = .ok (.iconst 3, 1) := by decide +kernel
theorem dL_law_490 : decode cL_law 490 = .ok (.invokevirtual 38, 3) := by decide +kernel
theorem dL_law_493 : decode cL_law 493 = .ok (.iconst 1, 1) := by decide +kernel
theorem dL_law_494 : decode cL_law 494 = .ok (.isub, 1) := by decide +kernel
theorem dL_law_495 : decode cL_law 495 = .ok (.iconst 2, 1) := by decide +kernel
theorem dL_law_496 : decode cL_law 496 = .ok (.invokevirtual 41, 3) := by decide +kernel
theorem dL_law_499 : decode cL_law 499 = .ok (.iload 12, 2) := by decide +kernel
theorem dL_law_501 : decode cL_law 501 = .ok (.if_icmp .eq 5, 3) := by decide +kernel
theorem dL_law_504 : decode cL_law 504 = .ok (.iconst 0, 1) := by decide +kernel
theorem dL_law_505 : decode cL_law 505 = .ok (.ireturn, 1) := by decide +kernel
theorem dL_law_506 : decode cL_law 506 = .ok (.iload_n 2, 1) := by decide +kernel
theorem dL_law_507 : decode cL_law 507 = .ok (.iload 12, 2) := by decide +kernel
theorem dL_law_509 : decode cL_law 509 = .ok (.iadd, 1) := by decide +kernel
theorem dL_law_510 : decode cL_law 510 = .ok (.istore_n 2, 1) := by decide +kernel
theorem dL_law_511 : decode cL_law 511 = .ok (.goto 556, 3) := by decide +kernel
theorem dL_law_514 : decode cL_law 514 = .ok (.iload 10, 2) := by decide +kernel
theorem dL_law_516 : decode cL_law 516 = .ok (.ifCond .ne 551, 3) := by decide +kernel
theorem dL_law_519 : decode cL_law 519 = .ok (.aload_n 1, 1) := by decide +kernel
theorem dL_law_520 : decode cL_law 520 = .ok (.aload_n 1, 1) := by decide +kernel
theorem dL_law_521 : decode cL_law 521 = .ok (.iload 9, 2) := by decide +kernel
theorem dL_law_523 : decode cL_law 523 = .ok (.iconst 0, 1) := by decide +kernel
theorem dL_law_524 : decode cL_law 524 = .ok (.invokevirtual 41, 3) := by decide +kernel
theorem dL_law_527 : decode cL_law 527 = .ok (.iconst 4, 1) := by decide +kernel
theorem dL_law_528 : decode cL_law 528 = .ok (.invokevirtual 53, 3) := by decide +kernel
theorem dL_law_531 : decode cL_law 531 = .ok (.aload_n 1, 1) := by decide +kernel
theorem dL_law_532 : decode cL_law 532 = .ok (.iload 9, 2) := by decide +kernel
theorem dL_law_534 : decode cL_law 534 = .ok (.iconst 2, 1) := by decide +kernel
theorem dL_law_535 : decode cL_law 535 = .ok (.invokevirtual 41, 3) := by decide +kernel
theorem dL_law_538 : decode cL_law 538 = .ok (.iadd, 1) := by decide +kernel
theorem dL_law_539 : decode cL_law 539 = .ok (.sipush 500, 3) := by decide +kernel
theorem dL_law_542 : decode cL_law 542 = .ok (.if_icmp .gt 525, 3) := by decide +kernel
theorem dL_law_545 : decode cL_law 545 = .ok (.aload_n 1, 1) := by decide +kernel
theorem dL_law_546 : decode cL_law 546 = .ok (.iload 9, 2) := by decide +kernel
theorem dL_law_548 : decode cL_law 548 = .ok (.iload 6, 2) := by decide +kernel
theorem dL_law_550 : decode cL_law 550 = .ok (.iconst 4, 1) := by decide +kernel
theorem dL_law_551 : decode cL_law 551 = .ok (.ishr, 1) := by decide +kernel
theorem dL_law_552 : decode cL_law 552 = .ok (.bipush 111, 2) := by decide +kernel
theorem dL_law_554 : decode cL_law 554 = .ok (.invokestatic 22, 3) := by decide +kernel
theorem dL_law_557 : decode cL_law 557 = .ok (.iconst 1, 1) := by decide +kernel
theorem dL_law_558 : decode cL_law 558 = .ok (.iload 7, 2) := by decide +kernel
theorem dL_law_560 : decode cL_law 560 = .ok (.iconst 4, 1) := by decide +kernel
theorem dL_law_561 : decode cL_law 561 = .ok (.ishr, 1) := by decide +kernel
theorem dL_law_562 : decode cL_law 562 = .ok (.bipush 30, 2) := by decide +kernel
theorem dL_law_564 : decode cL_law 564 = .ok (.invokestatic 22, 3) := by decide +kernel
theorem dL_law_567 : decode cL_law 567 = .ok (.iadd, 1) := by decide +kernel
theorem dL_law_568 : decode cL_law 568 = .ok (.invokevirtual 56, 3) := by decide +kernel
theorem dL_law_571 : decode cL_law 571 = .ok (.aload_n 1, 1) := by decide +kernel
theorem dL_law_572 : decode cL_law 572 = .ok (.bipush 6, 2) := by decide +kernel
theorem dL_law_574 : decode cL_law 574 = .ok (.invokevirtual 38, 3) := by decide +kernel
theorem dL_law_577 : decode cL_law 577 = .ok (.if_icmp .eq 490, 3) := by decide +kernel
theorem dL_law_580 : decode cL_law 580 = .ok (.iconst 0, 1) := by decide +kernel
theorem dL_law_581 : decode cL_law 581 = .ok (.ireturn, 1) := by decide +kernel
theorem dL_law_582 : decode cL_law 582 = .ok (.iload 10, 2) := by decide +kernel
theorem dL_law_584 : decode cL_law 584 = .ok (.iconst 1, 1) := by decide +kernel
theorem dL_law_585 : decode cL_law 585 = .ok (.if_icmp .ne 482, 3) := by decide +kernel
theorem dL_law_588 : decode cL_law 588 = .ok (.aload_n 1, 1) := by decide +kernel
theorem dL_law_589 : decode cL_law 589 = .ok (.iload 9, 2) := by decide +kernel
theorem dL_law_591 : decode cL_law 591 = .ok (.invokestatic 59, 3) := by decide +kernel
theorem dL_law_594 : decode cL_law 594 = .ok (.ifCond .ne 473, 3) := by decide +kernel
theorem dL_law_597 : decode cL_law 597 = .ok (.iconst 0, 1) := by decide +kernel
theorem dL_law_598 : decode cL_law 598 = .ok (.ireturn, 1) := by decide +kernel
theorem dL_law_599 : decode cL_law 599 = .ok (.iload 10, 2) := by decide +kernel
theorem dL_law_601 : decode cL_law 601 = .ok (.ifCond .ne 466, 3) := by decide +kernel
theorem dL_law_604 : decode cL_law 604 = .ok (.aload_n 1, 1) := by decide +kernel
theorem dL_law_605 : decode cL_law 605 = .ok (.iload 9, 2) := by decide +kernel
theorem dL_law_607 : decode cL_law 607 = .ok (.iconst 2, 1) := by decide +kernel
theorem dL_law_608 : decode cL_law 608 = .ok (.invokevirtual 41, 3) := by decide +kernel
theorem dL_law_611 : decode cL_law 611 = .ok (.ifCond .le 456, 3) := by decide +kernel
theorem dL_law_614 : decode cL_law 614 = .ok (.aload_n 1, 1) := by decide +kernel
theorem dL_law_615 : decode cL_law 615 = .ok (.aload_n 1, 1) := by decide +kernel
theorem dL_law_616 : decode cL_law 616 = .ok (.iload 9, 2) := by decide +kernel
theorem dL_law_618 : decode cL_law 618 = .ok (.iconst 0, 1) := by decide +kernel
theorem dL_law_619 : decode cL_law 619 = .ok (.invokevirtual 41, 3) := by decide +kernel
theorem dL_law_622 : decode cL_law 622 = .ok (.iconst 4, 1) := by decide +kernel
theorem dL_law_623 : decode cL_law 623 = .ok (.invokevirtual 53, 3) := by decide +kernel
theorem dL_law_626 : decode cL_law 626 = .ok (.iconst 2, 1) := by decide +kernel
theorem dL_law_627 : decode cL_law 627 = .ok (.aload_n 1, 1) := by decide +kernel
theorem dL_law_628 : decode cL_law 628 = .ok (.iload 9, 2) := by decide +kernel
theorem dL_law_630 : decode cL_law 630 = .ok (.iconst 2, 1) := by decide +kernel
theorem dL_law_631 : decode cL_law 631 = .ok (.invokevirtual 41, 3) := by decide +kernel
theorem dL_law_634 : decode cL_law 634 = .ok (.imul, 1) := by decide +kernel
theorem dL_law_635 : decode cL_law 635 = .ok (.iadd, 1) := by decide +kernel
theorem dL_law_636 : decode cL_law 636 = .ok (.sipush 500, 3) := by decide +kernel
theorem dL_law_639 : decode cL_law 639 = .ok (.if_icmp .gt 428, 3) := by decide +kernel
theorem dL_law_642 : decode cL_law 642 = .ok (.aload_n 1, 1) := by decide +kernel
theorem dL_law_643 : decode cL_law 643 = .ok (.bipush 6, 2) := by decide +kernel
theorem dL_law_645 : decode cL_law 645 = .ok (.invokevirtual 38, 3) := by decide +kernel
theorem dL_law_648 : decode cL_law 648 = .ok (.ifCond .ne 419, 3) := by decide +kernel
theorem dL_law_651 : decode cL_law 651 = .ok (.aload_n 1, 1) := by decide +kernel
theorem dL_law_652 : decode cL_law 652 = .ok (.iload 9, 2) := by decide +kernel
theorem dL_law_654 : decode cL_law 654 = .ok (.invokestatic 63, 3) := by decide +kernel
theorem dL_law_657 : decode cL_law 657 = .ok (.ifCond .ne 410, 3) := by decide +kernel
theorem dL_law_660 : decode cL_law 660 = .ok (.iconst 0, 1) := by decide +kernel
theorem dL_law_661 : decode cL_law 661 = .ok (.ireturn, 1) := by decide +kernel
theorem dL_law_662 : decode cL_law 662 = .ok (.aload_n 1, 1) := by decide +kernel
theorem dL_law_663 : decode cL_law 663 = .ok (.bipush 6, 2) := by decide +kernel
theorem dL_law_665 : decode cL_law 665 = .ok (.invokevirtual 38, 3) := by decide +kernel
theorem dL_law_668 : decode cL_law 668 = .ok (.ifCond .le 399, 3) := by decide +kernel
theorem dL_law_671 : decode cL_law 671 = .ok (.aload_n 1, 1) := by decide +kernel
theorem dL_law_672 : decode cL_law 672 = .ok (.invokestatic 66, 3) := by decide +kernel
theorem dL_law_675 : decode cL_law 675 = .ok (.ifCond .ne 392, 3) := by decide +kernel
theorem dL_law_678 : decode cL_law 678 = .ok (.iconst 0, 1) := by decide +kernel
theorem dL_law_679 : decode cL_law 679 = .ok (.ireturn, 1) := by decide +kernel
theorem dL_law_680 : decode cL_law 680 = .ok (.iconst 1, 1) := by decide +kernel
theorem dL_law_681 : decode cL_law 681 = .ok (.iload 6, 2) := by decide +kernel
theorem dL_law_683 : decode cL_law 683 = .ok (.iconst 4, 1) := by decide +kernel
theorem dL_law_684 : decode cL_law 684 = .ok (.ishr, 1) := by decide +kernel
theorem dL_law_685 : decode cL_law 685 = .ok (.bipush 20, 2) := by decide +kernel
theorem dL_law_687 : decode cL_law 687 = .ok (.invokestatic 22, 3) := by decide +kernel
theorem dL_law_690 : decode cL_law 690 = .ok (.iadd, 1) := by decide +kernel
theorem dL_law_691 : decode cL_law 691 = .ok (.istore 13, 2) := by decide +kernel
theorem dL_law_693 : decode cL_law 693 = .ok (.iconst 1, 1) := by decide +kernel
theorem dL_law_694 : decode cL_law 694 = .ok (.iload 7, 2) := by decide +kernel
theorem dL_law_696 : decode cL_law 696 = .ok (.iconst 5, 1) := by decide +kernel
theorem dL_law_697 : decode cL_law 697 = .ok (.ishr, 1) := by decide +kernel
theorem dL_law_698 : decode cL_law 698 = .ok (.bipush 60, 2) := by decide +kernel
theorem dL_law_700 : decode cL_law 700 = .ok (.invokestatic 22, 3) := by decide +kernel
theorem dL_law_703 : decode cL_law 703 = .ok (.iadd, 1) := by decide +kernel
theorem dL_law_704 : decode cL_law 704 = .ok (.istore 14, 2) := by decide +kernel
theorem dL_law_706 : decode cL_law 706 = .ok (.iload 10, 2) := by decide +kernel
theorem dL_law_708 : decode cL_law 708 = .ok (.ifCond .ne 359, 3) := by decide +kernel
theorem dL_law_711 : decode cL_law 711 = .ok (.iload 13, 2) := by decide +kernel
theorem dL_law_713 : decode cL_law 713 = .ok (.aload_n 1, 1) := by decide +kernel
theorem dL_law_714 : decode cL_law 714 = .ok (.iload 9, 2) := by decide +kernel
theorem dL_law_716 : decode cL_law 716 = .ok (.iconst 2, 1) := by decide +kernel
theorem dL_law_717 : decode cL_law 717 = .ok (.invokevirtual 41, 3) := by decide +kernel
theorem dL_law_720 : decode cL_law 720 = .ok (.if_icmp .gt 347, 3) := by decide +kernel
theorem dL_law_723 : decode cL_law 723 = .ok (.iload 13, 2) := by decide +kernel
theorem dL_law_725 : decode cL_law 725 = .ok (.iload 14, 2) := by decide +kernel
theorem dL_law_727 : decode cL_law 727 = .ok (.imul, 1) := by decide +kernel
theorem dL_law_728 : decode cL_law 728 = .ok (.aload_n 1, 1) := by decide +kernel
theorem dL_law_729 : decode cL_law 729 = .ok (.iload 8, 2) := by decide +kernel
theorem dL_law_731 : decode cL_law 731 = .ok (.iconst 0, 1) := by decide +kernel
theorem dL_law_732 : decode cL_law 732 = .ok (.invokevirtual 70, 3) := by decide +kernel
theorem dL_law_735 : decode cL_law 735 = .ok (.if_icmp .gt 332, 3) := by decide +kernel
theorem dL_law_738 : decode cL_law 738 = .ok (.aload_n 1, 1) := by decide +kernel
theorem dL_law_739 : decode cL_law 739 = .ok (.iload 9, 2) := by decide +kernel
theorem dL_law_741 : decode cL_law 741 = .ok (.iload 8, 2) := by decide +kernel
theorem dL_law_743 : decode cL_law 743 = .ok (.iload 13, 2) := by decide +kernel
theorem dL_law_745 : decode cL_law 745 = .ok (.iload 14, 2) := by decide +kernel
theorem dL_law_747 : decode cL_law 747 = .ok (.iload 7, 2) := by decide +kernel
theorem dL_law_749 : decode cL_law 749 = .ok (.iconst 4, 1) := by decide +kernel
theorem dL_law_750 : decode cL_law 750 = .ok (.ishr, 1) := by decide +kernel
theorem dL_law_751 : decode cL_law 751 = .ok (.iconst 2, 1) := by decide +kernel
theorem dL_law_752 : decode cL_law 752 = .ok (.invokestatic 22, 3) := by decide +kernel
theorem dL_law_755 : decode cL_law 755 = .ok (.ifCond .ne 7, 3) := by decide +kernel
theorem dL_law_758 : decode cL_law 758 = .ok (.iconst 1, 1) := by decide +kernel
theorem dL_law_759 : decode cL_law 759 = .ok (.goto 4, 3) := by decide +kernel
theorem dL_law_762 : decode cL_law 762 = .ok (.iconst 0, 1) := by decide +kernel
theorem dL_law_763 : decode cL_law 763 = .ok (.invokestatic 73, 3) := by decide +kernel
theorem dL_law_766 : decode cL_law 766 = .ok (.ifCond .ne 301, 3) := by decide +kernel
theorem dL_law_769 : decode cL_law 769 = .ok (.iconst 0, 1) := by decide +kernel
theorem dL_law_770 : decode cL_law 770 = .ok (.ireturn, 1) := by decide +kernel
theorem dL_law_771 : decode cL_law 771 = .ok (.aload_n 1, 1) := by decide +kernel
theorem dL_law_772 : decode cL_law 772 = .ok (.iload 8, 2) := by decide +kernel
theorem dL_law_774 : decode cL_law 774 = .ok (.iload 6, 2) := by decide +kernel
theorem dL_law_776 : decode cL_law 776 = .ok (.iconst 4, 1) := by decide +kernel
theorem dL_law_777 : decode cL_law 777 = .ok (.ishr, 1) := by decide +kernel
theorem dL_law_778 : decode cL_law 778 = .ok (.iconst 3, 1) := by decide +kernel
theorem dL_law_779 : decode cL_law 779 = .ok (.invokestatic 22, 3) := by decide +kernel
theorem dL_law_782 : decode cL_law 782 = .ok (.ifCond .ne 7, 3) := by decide +kernel
theorem dL_law_785 : decode cL_law 785 = .ok (.iconst (-1), 1) := by decide +kernel
theorem dL_law_786 : decode cL_law 786 = .ok (.goto 18, 3) := by decide +kernel
theorem dL_law_789 : decode cL_law 789 = .ok (.aload_n 1, 1) := by decide +kernel
theorem dL_law_790 : decode cL_law 790 = .ok (.iconst 0, 1) := by decide +kernel
theorem dL_law_791 : decode cL_law 791 = .ok (.invokevirtual 38, 3) := by decide +kernel
theorem dL_law_794 : decode cL_law 794 = .ok (.iload 7, 2) := by decide +kernel
theorem dL_law_796 : decode cL_law 796 = .ok (.iconst 3, 1) := by decide +kernel
theorem dL_law_797 : decode cL_law 797 = .ok (.ishr, 1) := by decide +kernel
theorem dL_law_798 : decode cL_law 798 = .ok (.bipush 6, 2) := by decide +kernel
theorem dL_law_800 : decode cL_law 800 = .ok (.invokestatic 22, 3) := by decide +kernel
theorem dL_law_803 : decode cL_law 803 = .ok (.iadd, 1) := by decide +kernel
theorem dL_law_804 : decode cL_law 804 = .ok (.invokevirtual 77, 3) := by decide +kernel
theorem dL_law_807 : decode cL_law 807 = .ok (.iconst (-1), 1) := by decide +kernel
theorem dL_law_808 : decode cL_law 808 = .ok (.if_icmp .lt 21, 3) := by decide +kernel
theorem dL_law_811 : decode cL_law 811 = .ok (.aload_n 1, 1) := by decide +kernel
theorem dL_law_812 : decode cL_law 812 = .ok (.iload 8, 2) := by decide +kernel
theorem dL_law_814 : decode cL_law 814 = .ok (.iload 7, 2) := by decide +kernel
theorem dL_law_816 : decode cL_law 816 = .ok (.bipush 10, 2) := by decide +kernel
theorem dL_law_818 : decode cL_law 818 = .ok (.invokestatic 22, 3) := by decide +kernel
theorem dL_law_821 : decode cL_law 821 = .ok (.invokevirtual 80, 3) := by decide +kernel
theorem dL_law_824 : decode cL_law 824 = .ok (.bipush 9, 2) := by decide +kernel
theorem dL_law_826 : decode cL_law 826 = .ok (.if_icmp .le 241, 3) := by decide +kernel
theorem dL_law_829 : decode cL_law 829 = .ok (.iconst 0, 1) := by decide +kernel
theorem dL_law_830 : decode cL_law 830 = .ok (.ireturn, 1) := by decide +kernel
theorem dL_law_831 : decode cL_law 831 = .ok (.aload_n 1, 1) := by decide +kernel
theorem dL_law_832 : decode cL_law 832 = .ok (.iload 8, 2) := by decide +kernel
theorem dL_law_834 : decode cL_law 834 = .ok (.iconst 4, 1) := by decide +kernel
theorem dL_law_835 : decode cL_law 835 = .ok (.invokevirtual 70, 3) := by decide +kernel
theorem dL_law_838 : decode cL_law 838 = .ok (.aload_n 1, 1) := by decide +kernel
theorem dL_law_839 : decode cL_law 839 = .ok (.iload 8, 2) := by decide +kernel
theorem dL_law_841 : decode cL_law 841 = .ok (.iconst 5, 1) := by decide +kernel
theorem dL_law_842 : decode cL_law 842 = .ok (.invokevirtual 70, 3) := by decide +kernel
theorem dL_law_845 : decode cL_law 845 = .ok (.iadd, 1) := by decide +kernel
theorem dL_law_846 : decode cL_law 846 = .ok (.aload_n 1, 1) := by decide +kernel
theorem dL_law_847 : decode cL_law 847 = .ok (.iload 8, 2) := by decide +kernel
theorem dL_law_849 : decode cL_law 849 = .ok (.bipush 6, 2) := by decide +kernel
theorem dL_law_851 : decode cL_law 851 = .ok (.invokevirtual 70, 3) := by decide +kernel
theorem dL_law_854 : decode cL_law 854 = .ok (.iadd, 1) := by decide +kernel
theorem dL_law_855 : decode cL_law 855 = .ok (.istore 15, 2) := by decide +kernel
theorem dL_law_857 : decode cL_law 857 = .ok (.aload_n 1, 1) := by decide +kernel
theorem dL_law_858 : decode cL_law 858 = .ok (.iload 8, 2) := by decide +kernel
theorem dL_law_860 : decode cL_law 860 = .ok (.iconst 1, 1) := by decide +kernel
theorem dL_law_861 : decode cL_law 861 = .ok (.iload 7, 2) := by decide +kernel
theorem dL_law_863 : decode cL_law 863 = .ok (.iconst 2, 1) := by decide +kernel
theorem dL_law_864 : decode cL_law 864 = .ok (.ishr, 1) := by decide +kernel
theorem dL_law_865 : decode cL_law 865 = .ok (.bipush 6, 2) := by decide +kernel
theorem dL_law_867 : decode cL_law 867 = .ok (.invokestatic 22, 3) := by decide +kernel
theorem dL_law_870 : decode cL_law 870 = .ok (.iadd, 1) := by decide +kernel
theorem dL_law_871 : decode cL_law 871 = .ok (.invokevirtual 83, 3) := by decide +kernel
theorem dL_law_874 : decode cL_law 874 = .ok (.istore 16, 2) := by decide +kernel
theorem dL_law_876 : decode cL_law 876 = .ok (.iload 15, 2) := by decide +kernel
theorem dL_law_878 : decode cL_law 878 = .ok (.aload_n 1, 1) := by decide +kernel
theorem dL_law_879 : decode cL_law 879 = .ok (.iload 8, 2) := by decide +kernel
theorem dL_law_881 : decode cL_law 881 = .ok (.iconst 4, 1) := by decide +kernel
theorem dL_law_882 : decode cL_law 882 = .ok (.invokevirtual 70, 3) := by decide +kernel
theorem dL_law_885 : decode cL_law 885 = .ok (.isub, 1) := by decide +kernel
theorem dL_law_886 : decode cL_law 886 = .ok (.aload_n 1, 1) := by decide +kernel
theorem dL_law_887 : decode cL_law 887 = .ok (.iload 8, 2) := by decide +kernel
theorem dL_law_889 : decode cL_law 889 = .ok (.iconst 5, 1) := by decide +kernel
theorem dL_law_890 : decode cL_law 890 = .ok (.invokevirtual 70, 3) := by decide +kernel
theorem dL_law_893 : decode cL_law 893 = .ok (.isub, 1) := by decide +kernel
theorem dL_law_894 : decode cL_law 894 = .ok (.aload_n 1, 1) := by decide +kernel
theorem dL_law_895 : decode cL_law 895 = .ok (.iload 8, 2) := by decide +kernel
theorem dL_law_897 : decode cL_law 897 = .ok (.bipush 6, 2) := by decide +kernel
theorem dL_law_899 : decode cL_law 899 = .ok (.invokevirtual 70, 3) := by decide +kernel
theorem dL_law_902 : decode cL_law 902 = .ok (.isub, 1) := by decide +kernel
theorem dL_law_903 : decode cL_law 903 = .ok (.istore 17, 2) := by decide +kernel
theorem dL_law_905 : decode cL_law 905 = .ok (.iload 17, 2) := by decide +kernel
theorem dL_law_907 : decode cL_law 907 = .ok (.bipush 6, 2) := by decide +kernel
theorem dL_law_909 : decode cL_law 909 = .ok (.iload 16, 2) := by decide +kernel
theorem dL_law_911 : decode cL_law 911 = .ok (.imul, 1) := by decide +kernel
theorem dL_law_912 : decode cL_law 912 = .ok (.if_icmp .lt 13, 3) := by decide +kernel
theorem dL_law_915 : decode cL_law 915 = .ok (.iload 17, 2) := by decide +kernel
theorem dL_law_917 : decode cL_law 917 = .ok (.bipush 9, 2) := by decide +kernel
theorem dL_law_919 : decode cL_law 919 = .ok (.iload 16, 2) := by decide +kernel
theorem dL_law_921 : decode cL_law 921 = .ok (.imul, 1) := by decide +kernel
theorem dL_law_922 : decode cL_law 922 = .ok (.if_icmp .le 5, 3) := by decide +kernel
theorem dL_law_925 : decode cL_law 925 = .ok (.iconst 0, 1) := by decide +kernel
theorem dL_law_926 : decode cL_law 926 = .ok (.ireturn, 1) := by decide +kernel
theorem dL_law_927 : decode cL_law 927 = .ok (.iload 4, 2) := by decide +kernel
theorem dL_law_929 : decode cL_law 929 = .ok (.iload 17, 2) := by decide +kernel
theorem dL_law_931 : decode cL_law 931 = .ok (.iadd, 1) := by decide +kernel
theorem dL_law_932 : decode cL_law 932 = .ok (.istore 4, 2) := by decide +kernel
theorem dL_law_934 : decode cL_law 934 = .ok (.aload_n 1, 1) := by decide +kernel
theorem dL_law_935 : decode cL_law 935 = .ok (.iload 8, 2) := by decide +kernel
theorem dL_law_937 : decode cL_law 937 = .ok (.bipush 7, 2) := by decide +kernel
theorem dL_law_939 : decode cL_law 939 = .ok (.invokevirtual 70, 3) := by decide +kernel
theorem dL_law_942 : decode cL_law 942 = .ok (.ifCond .le 125, 3) := by decide +kernel
theorem dL_law_945 : decode cL_law 945 = .ok (.aload_n 1, 1) := by decide +kernel
theorem dL_law_946 : decode cL_law 946 = .ok (.iload 8, 2) := by decide +kernel
theorem dL_law_948 : decode cL_law 948 = .ok (.iconst 1, 1) := by decide +kernel
theorem dL_law_949 : decode cL_law 949 = .ok (.invokevirtual 86, 3) := by decide +kernel
theorem dL_law_952 : decode cL_law 952 = .ok (.aload_n 1, 1) := by decide +kernel
theorem dL_law_953 : decode cL_law 953 = .ok (.bipush 8, 2) := by decide +kernel
theorem dL_law_955 : decode cL_law 955 = .ok (.invokevirtual 38, 3) := by decide +kernel
theorem dL_law_958 : decode cL_law 958 = .ok (.if_icmp .eq 109, 3) := by decide +kernel
theorem dL_law_961 : decode cL_law 961 = .ok (.iconst 0, 1) := by decide +kernel
theorem dL_law_962 : decode cL_law 962 = .ok (.ireturn, 1) := by decide +kernel
theorem dL_law_963 : decode cL_law 963 = .ok (.iload 10, 2) := by decide +kernel
theorem dL_law_965 : decode cL_law 965 = .ok (.ifCond .ne 102, 3) := by decide +kernel
theorem dL_law_968 : decode cL_law 968 = .ok (.iload 7, 2) := by decide +kernel
theorem dL_law_970 : decode cL_law 970 = .ok (.iconst 3, 1) := by decide +kernel
theorem dL_law_971 : decode cL_law 971 = .ok (.invokestatic 22, 3) := by decide +kernel
theorem dL_law_974 : decode cL_law 974 = .ok (.ifCond .ne 93, 3) := by decide +kernel
theorem dL_law_977 : decode cL_law 977 = .ok (.aload_n 1, 1) := by decide +kernel
theorem dL_law_978 : decode cL_law 978 = .ok (.iload 9, 2) := by decide +kernel
theorem dL_law_980 : decode cL_law 980 = .ok (.iconst 1, 1) := by decide +kernel
theorem dL_law_981 : decode cL_law 981 = .ok (.invokevirtual 89, 3) := by decide +kernel
theorem dL_law_984 : decode cL_law 984 = .ok (.ifCond .lt 21, 3) := by decide +kernel
theorem dL_law_987 : decode cL_law 987 = .ok (.aload_n 1, 1) := by decide +kernel
theorem dL_law_988 : decode cL_law 988 = .ok (.iload 9, 2) := by decide +kernel
theorem dL_law_990 : decode cL_law 990 = .ok (.iconst 2, 1) := by decide +kernel
theorem dL_law_991 : decode cL_law 991 = .ok (.invokevirtual 41, 3) := by decide +kernel
theorem dL_law_994 : decode cL_law 994 = .ok (.aload_n 1, 1) := by decide +kernel
theorem dL_law_995 : decode cL_law 995 = .ok (.iload 9, 2) := by decide +kernel
theorem dL_law_997 : decode cL_law 997 = .ok (.iconst 5, 1) := by decide +kernel
theorem dL_law_998 : decode cL_law 998 = .ok (.invokevirtual 41, 3) := by decide +kernel
theorem dL_law_1001 : decode cL_law 1001 = .ok (.iadd, 1) := by decide +kernel
theorem dL_law_1002 : decode cL_law 1002 = .ok (.ifCond .eq 65, 3) := by decide +kernel
theorem dL_law_1005 : decode cL_law 1005 = .ok (.iconst 0, 1) := by decide +kernel
theorem dL_law_1006 : decode cL_law 1006 = .ok (.ireturn, 1) := by decide +kernel
theorem dL_law_1007 : decode cL_law 1007 = .ok (.iconst 1, 1) := by decide +kernel
theorem dL_law_1008 : decode cL_law 1008 = .ok (.iload 7, 2) := by decide +kernel
theorem dL_law_1010 : decode cL_law 1010 = .ok (.iconst 1, 1) := by decide +kernel
theorem dL_law_1011 : decode cL_law 1011 = .ok (.ishr, 1) := by decide +kernel
theorem dL_law_1012 : decode cL_law 1012 = .ok (.iconst 4, 1) := by decide +kernel
theorem dL_law_1013 : decode cL_law 1013 = .ok (.invokestatic 22, 3) := by decide +kernel
theorem dL_law_1016 : decode cL_law 1016 = .ok (.iadd, 1) := by decide +kernel
theorem dL_law_1017 : decode cL_law 1017 = .ok (.istore 18, 2) := by decide +kernel
theorem dL_law_1019 : decode cL_law 1019 = .ok (.iconst 0, 1) := by decide +kernel
theorem dL_law_1020 : decode cL_law 1020 = .ok (.istore 19, 2) := by decide +kernel
theorem dL_law_1022 : decode cL_law 1022 = .ok (.iload 19, 2) := by decide +kernel
theorem dL_law_1024 : decode cL_law 1024 = .ok (.iconst 3, 1) := by decide +kernel
theorem dL_law_1025 : decode cL_law 1025 = .ok (.if_icmp .ge 22, 3) := by decide +kernel
theorem dL_law_1028 : decode cL_law 1028 = .ok (.iload_n 3, 1) := by decide +kernel
theorem dL_law_1029 : decode cL_law 1029 = .ok (.iload 18, 2) := by decide +kernel
theorem dL_law_1031 : decode cL_law 1031 = .ok (.aload_n 1, 1) := by decide +kernel
theorem dL_law_1032 : decode cL_law 1032 = .ok (.iload 19, 2) := by decide +kernel
theorem dL_law_1034 : decode cL_law 1034 = .ok (.iconst 1, 1) := by decide +kernel
theorem dL_law_1035 : decode cL_law 1035 = .ok (.invokevirtual 53, 3) := by decide +kernel
theorem dL_law_1038 : decode cL_law 1038 = .ok (.imul, 1) := by decide +kernel
theorem dL_law_1039 : decode cL_law 1039 = .ok (.iadd, 1) := by decide +kernel
theorem dL_law_1040 : decode cL_law 1040 = .ok (.istore_n 3, 1) := by decide +kernel
theorem dL_law_1041 : decode cL_law 1041 = .ok (.iinc 19 1, 3) := by decide +kernel
theorem dL_law_1044 : decode cL_law 1044 = .ok (.goto (-22), 3) := by decide +kernel
theorem dL_law_1047 : decode cL_law 1047 = .ok (.aload_n 1, 1) := by decide +kernel
theorem dL_law_1048 : decode cL_law 1048 = .ok (.iload 18, 2) := by decide +kernel
theorem dL_law_1050 : decode cL_law 1050 = .ok (.iload 6, 2) := by decide +kernel
theorem dL_law_1052 : decode cL_law 1052 = .ok (.iconst 4, 1) := by decide +kernel
theorem dL_law_1053 : decode cL_law 1053 = .ok (.ishr, 1) := by decide +kernel
theorem dL_law_1054 : decode cL_law 1054 = .ok (.bipush 10, 2) := by decide +kernel
theorem dL_law_1056 : decode cL_law 1056 = .ok (.invokestatic 22, 3) := by decide +kernel
theorem dL_law_1059 : decode cL_law 1059 = .ok (.invokestatic 93, 3) := by decide +kernel
theorem dL_law_1062 : decode cL_law 1062 = .ok (.ifCond .ne 5, 3) := by decide +kernel
theorem dL_law_1065 : decode cL_law 1065 = .ok (.iconst 0, 1) := by decide +kernel
theorem dL_law_1066 : decode cL_law 1066 = .ok (.ireturn, 1) := by decide +kernel
theorem dL_law_1067 : decode cL_law 1067 = .ok (.aload_n 1, 1) := by decide +kernel
theorem dL_law_1068 : decode cL_law 1068 = .ok (.iload_n 2, 1) := by decide +kernel
theorem dL_law_1069 : decode cL_law 1069 = .ok (.iload 4, 2) := by decide +kernel
theorem dL_law_1071 : decode cL_law 1071 = .ok (.iload_n 3, 1) := by decide +kernel
theorem dL_law_1072 : decode cL_law 1072 = .ok (.invokestatic 97, 3) := by decide +kernel
theorem dL_law_1075 : decode cL_law 1075 = .ok (.ifCond .ne 5, 3) := by decide +kernel
theorem dL_law_1078 : decode cL_law 1078 = .ok (.iconst 0, 1) := by decide +kernel
theorem dL_law_1079 : decode cL_law 1079 = .ok (.ireturn, 1) := by decide +kernel
theorem dL_law_1080 : decode cL_law 1080 = .ok (.iinc 5 1, 3) := by decide +kernel
theorem dL_law_1083 : decode cL_law 1083 = .ok (.goto (-883), 3) := by decide +kernel
theorem dL_law_1086 : decode cL_law 1086 = .ok (.aload_n 1, 1) := by decide +kernel
theorem dL_law_1087 : decode cL_law 1087 = .ok (.invokevirtual 101, 3) := by decide +kernel
theorem dL_law_1090 : decode cL_law 1090 = .ok (.lstore 5, 2) := by decide +kernel
theorem dL_law_1092 : decode cL_law 1092 = .ok (.iconst 0, 1) := by decide +kernel
theorem dL_law_1093 : decode cL_law 1093 = .ok (.istore 7, 2) := by decide +kernel
theorem dL_law_1095 : decode cL_law 1095 = .ok (.iload 7, 2) := by decide +kernel
theorem dL_law_1097 : decode cL_law 1097 = .ok (.aload_n 1, 1) := by decide +kernel
theorem dL_law_1098 : decode cL_law 1098 = .ok (.iconst 3, 1) := by decide +kernel
theorem dL_law_1099 : decode cL_law 1099 = .ok (.invokevirtual 38, 3) := by decide +kernel
theorem dL_law_1102 : decode cL_law 1102 = .ok (.if_icmp .ge 32, 3) := by decide +kernel
theorem dL_law_1105 : decode cL_law 1105 = .ok (.aload_n 1, 1) := by decide +kernel
theorem dL_law_1106 : decode cL_law 1106 = .ok (.iload 7, 2) := by decide +kernel
theorem dL_law_1108 : decode cL_law 1108 = .ok (.invokevirtual 105, 3) := by decide +kernel
theorem dL_law_1111 : decode cL_law 1111 = .ok (.bipush 99, 2) := by decide +kernel
theorem dL_law_1113 : decode cL_law 1113 = .ok (.if_icmp .gt 13, 3) := by decide +kernel
theorem dL_law_1116 : decode cL_law 1116 = .ok (.aload_n 1, 1) := by decide +kernel
theorem dL_law_1117 : decode cL_law 1117 = .ok (.iload 7, 2) := by decide +kernel
theorem dL_law_1119 : decode cL_law 1119 = .ok (.invokevirtual 108, 3) := by decide +kernel
theorem dL_law_1122 : decode cL_law 1122 = .ok (.iconst 1, 1) := by decide +kernel
theorem dL_law_1123 : decode cL_law 1123 = .ok (.if_icmp .ge 5, 3) := by decide +kernel
theorem dL_law_1126 : decode cL_law 1126 = .ok (.iconst 0, 1) := by decide +kernel
theorem dL_law_1127 : decode cL_law 1127 = .ok (.ireturn, 1) := by decide +kernel
theorem dL_law_1128 : decode cL_law 1128 = .ok (.iinc 7 1, 3) := by decide +kernel
theorem dL_law_1131 : decode cL_law 1131 = .ok (.goto (-36), 3) := by decide +kernel
theorem dL_law_1134 : decode cL_law 1134 = .ok (.aload_n 1, 1) := by decide +kernel
theorem dL_law_1135 : decode cL_law 1135 = .ok (.invokevirtual 101, 3) := by decide +kernel
theorem dL_law_1138 : decode cL_law 1138 = .ok (.lload 5, 2) := by decide +kernel
theorem dL_law_1140 : decode cL_law 1140 = .ok (.lcmp, 1) := by decide +kernel
theorem dL_law_1141 : decode cL_law 1141 = .ok (.ifCond .ne 7, 3) := by decide +kernel
theorem dL_law_1144 : decode cL_law 1144 = .ok (.iconst 1, 1) := by decide +kernel
theorem dL_law_1145 : decode cL_law 1145 = .ok (.goto 4, 3) := by decide +kernel
theorem dL_law_1148 : decode cL_law 1148 = .ok (.iconst 0, 1) := by decide +kernel
theorem dL_law_1149 : decode cL_law 1149 = .ok (.ireturn, 1) := by decide +kernel
theorem dL_isInspected_0 : decode cL_isInspected 0 = .ok (.aload_n 0, 1) := by decide +kernel
theorem dL_isInspected_1 : decode cL_isInspected 1 = .ok (.iload_n 1, 1) := by decide +kernel
theorem dL_isInspected_2 : decode cL_isInspected 2 = .ok (.iconst 0, 1) := by decide +kernel
theorem dL_isInspected_3 : decode cL_isInspected 3 = .ok (.invokevirtual 41, 3) := by decide +kernel
theorem dL_isInspected_6 : decode cL_isInspected 6 = .ok (.istore_n 2, 1) := by decide +kernel
theorem dL_isInspected_7 : decode cL_isInspected 7 = .ok (.aload_n 0, 1) := by decide +kernel
theorem dL_isInspected_8 : decode cL_isInspected 8 = .ok (.iload_n 2, 1) := by decide +kernel
theorem dL_isInspected_9 : decode cL_isInspected 9 = .ok (.iconst 2, 1) := by decide +kernel
theorem dL_isInspected_10 : decode cL_isInspected 10 = .ok (.invokevirtual 53, 3) := by decide +kernel
theorem dL_isInspected_13 : decode cL_isInspected 13 = .ok (.istore_n 3, 1) := by decide +kernel
theorem dL_isInspected_14 : decode cL_isInspected 14 = .ok (.aload_n 0, 1) := by decide +kernel
theorem dL_isInspected_15 : decode cL_isInspected 15 = .ok (.iload_n 1, 1) := by decide +kernel
theorem dL_isInspected_16 : decode cL_isInspected 16 = .ok (.bipush 8, 2) := by decide +kernel
theorem dL_isInspected_18 : decode cL_isInspected 18 = .ok (.invokevirtual 41, 3) := by decide +kernel
theorem dL_isInspected_21 : decode cL_isInspected 21 = .ok (.aload_n 0, 1) := by decide +kernel
theorem dL_isInspected_22 : decode cL_isInspected 22 = .ok (.iload_n 1, 1) := by decide +kernel
theorem dL_isInspected_23 : decode cL_isInspected 23 = .ok (.iconst 4, 1) := by decide +kernel
theorem dL_isInspected_24 : decode cL_isInspected 24 = .ok (.invokevirtual 41, 3) := by decide +kernel
theorem dL_isInspected_27 : decode cL_isInspected 27 = .ok (.if_icmp .le 7, 3) := by decide +kernel
theorem dL_isInspected_30 : decode cL_isInspected 30 = .ok (.iconst 1, 1) := by decide +kernel
theorem dL_isInspected_31 : decode cL_isInspected 31 = .ok (.goto 4, 3) := by decide +kernel
theorem dL_isInspected_34 : decode cL_isInspected 34 = .ok (.iconst 0, 1) := by decide +kernel
theorem dL_isInspected_35 : decode cL_isInspected 35 = .ok (.istore 4, 2) := by decide +kernel
theorem dL_isInspected_37 : decode cL_isInspected 37 = .ok (.iload 4, 2) := by decide +kernel
theorem dL_isInspected_39 : decode cL_isInspected 39 = .ok (.ifCond .eq 14, 3) := by decide +kernel
theorem dL_isInspected_42 : decode cL_isInspected 42 = .ok (.iconst 0, 1) := by decide +kernel
theorem dL_isInspected_43 : decode cL_isInspected 43 = .ok (.iload_n 3, 1) := by decide +kernel
theorem dL_isInspected_44 : decode cL_isInspected 44 = .ok (.bipush 10, 2) := by decide +kernel
theorem dL_isInspected_46 : decode cL_isInspected 46 = .ok (.isub, 1) := by decide +kernel
theorem dL_isInspected_47 : decode cL_isInspected 47 = .ok (.invokestatic 111, 3) := by decide +kernel
theorem dL_isInspected_50 : decode cL_isInspected 50 = .ok (.goto 11, 3) := by decide +kernel
theorem dL_isInspected_53 : decode cL_isInspected 53 = .ok (.bipush 100, 2) := by decide +kernel
theorem dL_isInspected_55 : decode cL_isInspected 55 = .ok (.iload_n 3, 1) := by decide +kernel
theorem dL_isInspected_56 : decode cL_isInspected 56 = .ok (.iconst 2, 1) := by decide +kernel
theorem dL_isInspected_57 : decode cL_isInspected 57 = .ok (.iadd, 1) := by decide +kernel
theorem dL_isInspected_58 : decode cL_isInspected 58 = .ok (.invokestatic 116, 3) := by decide +kernel
theorem dL_isInspected_61 : decode cL_isInspected 61 = .ok (.istore 5, 2) := by decide +kernel
theorem dL_isInspected_63 : decode cL_isInspected 63 = .ok (.aload_n 0, 1) := by decide +kernel
theorem dL_isInspected_64 : decode cL_isInspected 64 = .ok (.iload_n 1, 1) := by decide +kernel
theorem dL_isInspected_65 : decode cL_isInspected 65 = .ok (.invokevirtual 119, 3) := by decide +kernel
theorem dL_isInspected_68 : decode cL_isInspected 68 = .ok (.iload 5, 2) := by decide +kernel
theorem dL_isInspected_70 : decode cL_isInspected 70 = .ok (.if_icmp .ne 34, 3) := by decide +kernel
theorem dL_isInspected_73 : decode cL_isInspected 73 = .ok (.aload_n 0, 1) := by decide +kernel
theorem dL_isInspected_74 : decode cL_isInspected 74 = .ok (.iload_n 2, 1) := by decide +kernel
theorem dL_isInspected_75 : decode cL_isInspected 75 = .ok (.iconst 2, 1) := by decide +kernel
theorem dL_isInspected_76 : decode cL_isInspected 76 = .ok (.invokevirtual 53, 3) := by decide +kernel
theorem dL_isInspected_79 : decode cL_isInspected 79 = .ok (.iload 5, 2) := by decide +kernel
theorem dL_isInspected_81 : decode cL_isInspected 81 = .ok (.if_icmp .ne 23, 3) := by decide +kernel
theorem dL_isInspected_84 : decode cL_isInspected 84 = .ok (.aload_n 0, 1) := by decide +kernel
theorem dL_isInspected_85 : decode cL_isInspected 85 = .ok (.iload_n 1, 1) := by decide +kernel
theorem dL_isInspected_86 : decode cL_isInspected 86 = .ok (.bipush 8, 2) := by decide +kernel
theorem dL_isInspected_88 : decode cL_isInspected 88 = .ok (.invokevirtual 41, 3) := by decide +kernel
theorem dL_isInspected_91 : decode cL_isInspected 91 = .ok (.aload_n 0, 1) := by decide +kernel
theorem dL_isInspected_92 : decode cL_isInspected 92 = .ok (.iload_n 1, 1) := by decide +kernel
theorem dL_isInspected_93 : decode cL_isInspected 93 = .ok (.iconst 4, 1) := by decide +kernel
theorem dL_isInspected_94 : decode cL_isInspected 94 = .ok (.invokevirtual 41, 3) := by decide +kernel
theorem dL_isInspected_97 : decode cL_isInspected 97 = .ok (.if_icmp .gt 7, 3) := by decide +kernel
theorem dL_isInspected_100 : decode cL_isInspected 100 = .ok (.iconst 1, 1) := by decide +kernel
theorem dL_isInspected_101 : decode cL_isInspected 101 = .ok (.goto 4, 3) := by decide +kernel
theorem dL_isInspected_104 : decode cL_isInspected 104 = .ok (.iconst 0, 1) := by decide +kernel
theorem dL_isInspected_105 : decode cL_isInspected 105 = .ok (.ireturn, 1) := by decide +kernel
theorem dL_isBest_0 : decode cL_isBest 0 = .ok (.aload_n 0, 1) := by decide +kernel
theorem dL_isBest_1 : decode cL_isBest 1 = .ok (.iload_n 1, 1) := by decide +kernel
theorem dL_isBest_2 : decode cL_isBest 2 = .ok (.iconst 0, 1) := by decide +kernel
theorem dL_isBest_3 : decode cL_isBest 3 = .ok (.invokevirtual 41, 3) := by decide +kernel
theorem dL_isBest_6 : decode cL_isBest 6 = .ok (.istore_n 2, 1) := by decide +kernel
theorem dL_isBest_7 : decode cL_isBest 7 = .ok (.aload_n 0, 1) := by decide +kernel
theorem dL_isBest_8 : decode cL_isBest 8 = .ok (.iload_n 2, 1) := by decide +kernel
theorem dL_isBest_9 : decode cL_isBest 9 = .ok (.iconst 0, 1) := by decide +kernel
theorem dL_isBest_10 : decode cL_isBest 10 = .ok (.invokevirtual 53, 3) := by decide +kernel
theorem dL_isBest_13 : decode cL_isBest 13 = .ok (.istore_n 3, 1) := by decide +kernel
theorem dL_isBest_14 : decode cL_isBest 14 = .ok (.aload_n 0, 1) := by decide +kernel
theorem dL_isBest_15 : decode cL_isBest 15 = .ok (.iload_n 1, 1) := by decide +kernel
theorem dL_isBest_16 : decode cL_isBest 16 = .ok (.iconst 4, 1) := by decide +kernel
theorem dL_isBest_17 : decode cL_isBest 17 = .ok (.invokevirtual 41, 3) := by decide +kernel
theorem dL_isBest_20 : decode cL_isBest 20 = .ok (.istore 4, 2) := by decide +kernel
theorem dL_isBest_22 : decode cL_isBest 22 = .ok (.aload_n 0, 1) := by decide +kernel
theorem dL_isBest_23 : decode cL_isBest 23 = .ok (.iload_n 1, 1) := by decide +kernel
theorem dL_isBest_24 : decode cL_isBest 24 = .ok (.invokevirtual 105, 3) := by decide +kernel
theorem dL_isBest_27 : decode cL_isBest 27 = .ok (.istore 5, 2) := by decide +kernel
theorem dL_isBest_29 : decode cL_isBest 29 = .ok (.aload_n 0, 1) := by decide +kernel
theorem dL_isBest_30 : decode cL_isBest 30 = .ok (.iload_n 1, 1) := by decide +kernel
theorem dL_isBest_31 : decode cL_isBest 31 = .ok (.invokevirtual 108, 3) := by decide +kernel
theorem dL_isBest_34 : decode cL_isBest 34 = .ok (.istore 6, 2) := by decide +kernel
theorem dL_isBest_36 : decode cL_isBest 36 = .ok (.aload_n 0, 1) := by decide +kernel
theorem dL_isBest_37 : decode cL_isBest 37 = .ok (.bipush 11, 2) := by decide +kernel
theorem dL_isBest_39 : decode cL_isBest 39 = .ok (.invokevirtual 38, 3) := by decide +kernel
theorem dL_isBest_42 : decode cL_isBest 42 = .ok (.istore 7, 2) := by decide +kernel
theorem dL_isBest_44 : decode cL_isBest 44 = .ok (.aload_n 0, 1) := by decide +kernel
theorem dL_isBest_45 : decode cL_isBest 45 = .ok (.iload_n 1, 1) := by decide +kernel
theorem dL_isBest_46 : decode cL_isBest 46 = .ok (.iload 4, 2) := by decide +kernel
theorem dL_isBest_48 : decode cL_isBest 48 = .ok (.iload 6, 2) := by decide +kernel
theorem dL_isBest_50 : decode cL_isBest 50 = .ok (.invokevirtual 56, 3) := by decide +kernel
theorem dL_isBest_53 : decode cL_isBest 53 = .ok (.iconst 1, 1) := by decide +kernel
theorem dL_isBest_54 : decode cL_isBest 54 = .ok (.if_icmp .eq 5, 3) := by decide +kernel
theorem dL_isBest_57 : decode cL_isBest 57 = .ok (.iconst 0, 1) := by decide +kernel
theorem dL_isBest_58 : decode cL_isBest 58 = .ok (.ireturn, 1) := by decide +kernel
theorem dL_isBest_59 : decode cL_isBest 59 = .ok (.aload_n 0, 1) := by decide +kernel
theorem dL_isBest_60 : decode cL_isBest 60 = .ok (.invokevirtual 122, 3) := by decide +kernel
theorem dL_isBest_63 : decode cL_isBest 63 = .ok (.istore 8, 2) := by decide +kernel
theorem dL_isBest_65 : decode cL_isBest 65 = .ok (.aload_n 0, 1) := by decide +kernel
theorem dL_isBest_66 : decode cL_isBest 66 = .ok (.iload_n 2, 1) := by decide +kernel
theorem dL_isBest_67 : decode cL_isBest 67 = .ok (.iconst 0, 1) := by decide +kernel
theorem dL_isBest_68 : decode cL_isBest 68 = .ok (.invokevirtual 53, 3) := by decide +kernel
theorem dL_isBest_71 : decode cL_isBest 71 = .ok (.iload_n 3, 1) := by decide +kernel
theorem dL_isBest_72 : decode cL_isBest 72 = .ok (.isub, 1) := by decide +kernel
theorem dL_isBest_73 : decode cL_isBest 73 = .ok (.istore 9, 2) := by decide +kernel
theorem dL_isBest_75 : decode cL_isBest 75 = .ok (.aload_n 0, 1) := by decide +kernel
theorem dL_isBest_76 : decode cL_isBest 76 = .ok (.bipush 11, 2) := by decide +kernel
theorem dL_isBest_78 : decode cL_isBest 78 = .ok (.invokevirtual 38, 3) := by decide +kernel
theorem dL_isBest_81 : decode cL_isBest 81 = .ok (.iload 7, 2) := by decide +kernel
theorem dL_isBest_83 : decode cL_isBest 83 = .ok (.iload 8, 2) := by decide +kernel
theorem dL_isBest_85 : decode cL_isBest 85 = .ok (.iadd, 1) := by decide +kernel
theorem dL_isBest_86 : decode cL_isBest 86 = .ok (.if_icmp .ne 37, 3) := by decide +kernel
theorem dL_isBest_89 : decode cL_isBest 89 = .ok (.iload 5, 2) := by decide +kernel
theorem dL_isBest_91 : decode cL_isBest 91 = .ok (.ifCond .ge 15, 3) := by decide +kernel
theorem dL_isBest_94 : decode cL_isBest 94 = .ok (.iload 8, 2) := by decide +kernel
theorem dL_isBest_96 : decode cL_isBest 96 = .ok (.ifCond .gt 27, 3) := by decide +kernel
theorem dL_isBest_99 : decode cL_isBest 99 = .ok (.iload 6, 2) := by decide +kernel
theorem dL_isBest_101 : decode cL_isBest 101 = .ok (.bipush 99, 2) := by decide +kernel
theorem dL_isBest_103 : decode cL_isBest 103 = .ok (.if_icmp .ne 20, 3) := by decide +kernel
theorem dL_isBest_106 : decode cL_isBest 106 = .ok (.iload 5, 2) := by decide +kernel
theorem dL_isBest_108 : decode cL_isBest 108 = .ok (.ifCond .lt 17, 3) := by decide +kernel
theorem dL_isBest_111 : decode cL_isBest 111 = .ok (.iload 8, 2) := by decide +kernel
theorem dL_isBest_113 : decode cL_isBest 113 = .ok (.ifCond .le 12, 3) := by decide +kernel
theorem dL_isBest_116 : decode cL_isBest 116 = .ok (.iload 6, 2) := by decide +kernel
theorem dL_isBest_118 : decode cL_isBest 118 = .ok (.iload 5, 2) := by decide +kernel
theorem dL_isBest_120 : decode cL_isBest 120 = .ok (.if_icmp .le 5, 3) := by decide +kernel
theorem dL_isBest_123 : decode cL_isBest 123 = .ok (.iconst 0, 1) := by decide +kernel
theorem dL_isBest_124 : decode cL_isBest 124 = .ok (.ireturn, 1) := by decide +kernel
theorem dL_isBest_125 : decode cL_isBest 125 = .ok (.iload 8, 2) := by decide +kernel
theorem dL_isBest_127 : decode cL_isBest 127 = .ok (.istore 10, 2) := by decide +kernel
theorem dL_isBest_129 : decode cL_isBest 129 = .ok (.iload 10, 2) := by decide +kernel
theorem dL_isBest_131 : decode cL_isBest 131 = .ok (.ifCond .le 15, 3) := by decide +kernel
theorem dL_isBest_134 : decode cL_isBest 134 = .ok (.iload 10, 2) := by decide +kernel
theorem dL_isBest_136 : decode cL_isBest 136 = .ok (.aload_n 0, 1) := by decide +kernel
theorem dL_isBest_137 : decode cL_isBest 137 = .ok (.invokevirtual 125, 3) := by decide +kernel
theorem dL_isBest_140 : decode cL_isBest 140 = .ok (.isub, 1) := by decide +kernel
theorem dL_isBest_141 : decode cL_isBest 141 = .ok (.istore 10, 2) := by decide +kernel
theorem dL_isBest_143 : decode cL_isBest 143 = .ok (.goto (-14), 3) := by decide +kernel
theorem dL_isBest_146 : decode cL_isBest 146 = .ok (.iload 10, 2) := by decide +kernel
theorem dL_isBest_148 : decode cL_isBest 148 = .ok (.ifCond .ne 35, 3) := by decide +kernel
theorem dL_isBest_151 : decode cL_isBest 151 = .ok (.aload_n 0, 1) := by decide +kernel
theorem dL_isBest_152 : decode cL_isBest 152 = .ok (.iload_n 2, 1) := by decide +kernel
theorem dL_isBest_153 : decode cL_isBest 153 = .ok (.iconst 0, 1) := by decide +kernel
theorem dL_isBest_154 : decode cL_isBest 154 = .ok (.invokevirtual 53, 3) := by decide +kernel
theorem dL_isBest_157 : decode cL_isBest 157 = .ok (.iload_n 3, 1) := by decide +kernel
theorem dL_isBest_158 : decode cL_isBest 158 = .ok (.if_icmp .ne 25, 3) := by decide +kernel
theorem dL_isBest_161 : decode cL_isBest 161 = .ok (.aload_n 0, 1) := by decide +kernel
theorem dL_isBest_162 : decode cL_isBest 162 = .ok (.iload_n 1, 1) := by decide +kernel
theorem dL_isBest_163 : decode cL_isBest 163 = .ok (.invokevirtual 105, 3) := by decide +kernel
theorem dL_isBest_166 : decode cL_isBest 166 = .ok (.iload 5, 2) := by decide +kernel
theorem dL_isBest_168 : decode cL_isBest 168 = .ok (.if_icmp .ne 15, 3) := by decide +kernel
theorem dL_isBest_171 : decode cL_isBest 171 = .ok (.aload_n 0, 1) := by decide +kernel
theorem dL_isBest_172 : decode cL_isBest 172 = .ok (.iload_n 1, 1) := by decide +kernel
theorem dL_isBest_173 : decode cL_isBest 173 = .ok (.iload 4, 2) := by decide +kernel
theorem dL_isBest_175 : decode cL_isBest 175 = .ok (.iconst 1, 1) := by decide +kernel
theorem dL_isBest_176 : decode cL_isBest 176 = .ok (.invokevirtual 56, 3) := by decide +kernel
theorem dL_isBest_179 : decode cL_isBest 179 = .ok (.iconst 1, 1) := by decide +kernel
theorem dL_isBest_180 : decode cL_isBest 180 = .ok (.if_icmp .eq 5, 3) := by decide +kernel
theorem dL_isBest_183 : decode cL_isBest 183 = .ok (.iconst 0, 1) := by decide +kernel
theorem dL_isBest_184 : decode cL_isBest 184 = .ok (.ireturn, 1) := by decide +kernel
theorem dL_isBest_185 : decode cL_isBest 185 = .ok (.aload_n 0, 1) := by decide +kernel
theorem dL_isBest_186 : decode cL_isBest 186 = .ok (.invokevirtual 122, 3) := by decide +kernel
theorem dL_isBest_189 : decode cL_isBest 189 = .ok (.istore 11, 2) := by decide +kernel
theorem dL_isBest_191 : decode cL_isBest 191 = .ok (.iload 11, 2) := by decide +kernel
theorem dL_isBest_193 : decode cL_isBest 193 = .ok (.iload 8, 2) := by decide +kernel
theorem dL_isBest_195 : decode cL_isBest 195 = .ok (.if_icmp .lt 43, 3) := by decide +kernel
theorem dL_isBest_198 : decode cL_isBest 198 = .ok (.aload_n 0, 1) := by decide +kernel
theorem dL_isBest_199 : decode cL_isBest 199 = .ok (.iload_n 2, 1) := by decide +kernel
theorem dL_isBest_200 : decode cL_isBest 200 = .ok (.iconst 0, 1) := by decide +kernel
theorem dL_isBest_201 : decode cL_isBest 201 = .ok (.invokevirtual 53, 3) := by decide +kernel
theorem dL_isBest_204 : decode cL_isBest 204 = .ok (.iload_n 3, 1) := by decide +kernel
theorem dL_isBest_205 : decode cL_isBest 205 = .ok (.isub, 1) := by decide +kernel
theorem dL_isBest_206 : decode cL_isBest 206 = .ok (.iload 9, 2) := by decide +kernel
theorem dL_isBest_208 : decode cL_isBest 208 = .ok (.if_icmp .gt 30, 3) := by decide +kernel
theorem dL_isBest_211 : decode cL_isBest 211 = .ok (.iload 11, 2) := by decide +kernel
theorem dL_isBest_213 : decode cL_isBest 213 = .ok (.ifCond .le 7, 3) := by decide +kernel
theorem dL_isBest_216 : decode cL_isBest 216 = .ok (.iconst 1, 1) := by decide +kernel
theorem dL_isBest_217 : decode cL_isBest 217 = .ok (.goto 4, 3) := by decide +kernel
theorem dL_isBest_220 : decode cL_isBest 220 = .ok (.iconst 0, 1) := by decide +kernel
theorem dL_isBest_221 : decode cL_isBest 221 = .ok (.iload 5, 2) := by decide +kernel
theorem dL_isBest_223 : decode cL_isBest 223 = .ok (.ifCond .le 7, 3) := by decide +kernel
theorem dL_isBest_226 : decode cL_isBest 226 = .ok (.iconst 1, 1) := by decide +kernel
theorem dL_isBest_227 : decode cL_isBest 227 = .ok (.goto 4, 3) := by decide +kernel
theorem dL_isBest_230 : decode cL_isBest 230 = .ok (.iconst 0, 1) := by decide +kernel
theorem dL_isBest_231 : decode cL_isBest 231 = .ok (.if_icmp .ne 7, 3) := by decide +kernel
theorem dL_isBest_234 : decode cL_isBest 234 = .ok (.iconst 1, 1) := by decide +kernel
theorem dL_isBest_235 : decode cL_isBest 235 = .ok (.goto 4, 3) := by decide +kernel
theorem dL_isBest_238 : decode cL_isBest 238 = .ok (.iconst 0, 1) := by decide +kernel
theorem dL_isBest_239 : decode cL_isBest 239 = .ok (.ireturn, 1) := by decide +kernel
theorem dL_isClocked_0 : decode cL_isClocked 0 = .ok (.aload_n 0, 1) := by decide +kernel
theorem dL_isClocked_1 : decode cL_isClocked 1 = .ok (.iconst 0, 1) := by decide +kernel
theorem dL_isClocked_2 : decode cL_isClocked 2 = .ok (.invokevirtual 128, 3) := by decide +kernel
theorem dL_isClocked_5 : decode cL_isClocked 5 = .ok (.istore_n 1, 1) := by decide +kernel
theorem dL_isClocked_6 : decode cL_isClocked 6 = .ok (.aload_n 0, 1) := by decide +kernel
theorem dL_isClocked_7 : decode cL_isClocked 7 = .ok (.iconst 1, 1) := by decide +kernel
theorem dL_isClocked_8 : decode cL_isClocked 8 = .ok (.invokevirtual 128, 3) := by decide +kernel
theorem dL_isClocked_11 : decode cL_isClocked 11 = .ok (.istore_n 2, 1) := by decide +kernel
theorem dL_isClocked_12 : decode cL_isClocked 12 = .ok (.aload_n 0, 1) := by decide +kernel
theorem dL_isClocked_13 : decode cL_isClocked 13 = .ok (.iload_n 1, 1) := by decide +kernel
theorem dL_isClocked_14 : decode cL_isClocked 14 = .ok (.iconst 2, 1) := by decide +kernel
theorem dL_isClocked_15 : decode cL_isClocked 15 = .ok (.invokevirtual 41, 3) := by decide +kernel
theorem dL_isClocked_18 : decode cL_isClocked 18 = .ok (.istore_n 3, 1) := by decide +kernel
theorem dL_isClocked_19 : decode cL_isClocked 19 = .ok (.aload_n 0, 1) := by decide +kernel
theorem dL_isClocked_20 : decode cL_isClocked 20 = .ok (.iload_n 1, 1) := by decide +kernel
theorem dL_isClocked_21 : decode cL_isClocked 21 = .ok (.bipush 9, 2) := by decide +kernel
theorem dL_isClocked_23 : decode cL_isClocked 23 = .ok (.invokevirtual 41, 3) := by decide +kernel
theorem dL_isClocked_26 : decode cL_isClocked 26 = .ok (.istore 4, 2) := by decide +kernel
theorem dL_isClocked_28 : decode cL_isClocked 28 = .ok (.aload_n 0, 1) := by decide +kernel
theorem dL_isClocked_29 : decode cL_isClocked 29 = .ok (.bipush 7, 2) := by decide +kernel
theorem dL_isClocked_31 : decode cL_isClocked 31 = .ok (.invokevirtual 38, 3) := by decide +kernel
theorem dL_isClocked_34 : decode cL_isClocked 34 = .ok (.istore 5, 2) := by decide +kernel
theorem dL_isClocked_36 : decode cL_isClocked 36 = .ok (.aload_n 0, 1) := by decide +kernel
theorem dL_isClocked_37 : decode cL_isClocked 37 = .ok (.invokevirtual 122, 3) := by decide +kernel
theorem dL_isClocked_40 : decode cL_isClocked 40 = .ok (.istore 6, 2) := by decide +kernel
theorem dL_isClocked_42 : decode cL_isClocked 42 = .ok (.aload_n 0, 1) := by decide +kernel
theorem dL_isClocked_43 : decode cL_isClocked 43 = .ok (.iload_n 1, 1) := by decide +kernel
theorem dL_isClocked_44 : decode cL_isClocked 44 = .ok (.iconst 2, 1) := by decide +kernel
theorem dL_isClocked_45 : decode cL_isClocked 45 = .ok (.invokevirtual 41, 3) := by decide +kernel
theorem dL_isClocked_48 : decode cL_isClocked 48 = .ok (.iload_n 3, 1) := by decide +kernel
theorem dL_isClocked_49 : decode cL_isClocked 49 = .ok (.iload 6, 2) := by decide +kernel
theorem dL_isClocked_51 : decode cL_isClocked 51 = .ok (.isub, 1) := by decide +kernel
theorem dL_isClocked_52 : decode cL_isClocked 52 = .ok (.if_icmp .ne 62, 3) := by decide +kernel
theorem dL_isClocked_55 : decode cL_isClocked 55 = .ok (.aload_n 0, 1) := by decide +kernel
theorem dL_isClocked_56 : decode cL_isClocked 56 = .ok (.iload_n 1, 1) := by decide +kernel
theorem dL_isClocked_57 : decode cL_isClocked 57 = .ok (.bipush 7, 2) := by decide +kernel
theorem dL_isClocked_59 : decode cL_isClocked 59 = .ok (.invokevirtual 41, 3) := by decide +kernel
theorem dL_isClocked_62 : decode cL_isClocked 62 = .ok (.iload 6, 2) := by decide +kernel
theorem dL_isClocked_64 : decode cL_isClocked 64 = .ok (.iload_n 3, 1) := by decide +kernel
theorem dL_isClocked_65 : decode cL_isClocked 65 = .ok (.if_icmp .ne 7, 3) := by decide +kernel
theorem dL_isClocked_68 : decode cL_isClocked 68 = .ok (.iconst 2, 1) := by decide +kernel
theorem dL_isClocked_69 : decode cL_isClocked 69 = .ok (.goto 4, 3) := by decide +kernel
theorem dL_isClocked_72 : decode cL_isClocked 72 = .ok (.iconst 0, 1) := by decide +kernel
theorem dL_isClocked_73 : decode cL_isClocked 73 = .ok (.if_icmp .ne 41, 3) := by decide +kernel
theorem dL_isClocked_76 : decode cL_isClocked 76 = .ok (.aload_n 0, 1) := by decide +kernel
theorem dL_isClocked_77 : decode cL_isClocked 77 = .ok (.iconst 0, 1) := by decide +kernel
theorem dL_isClocked_78 : decode cL_isClocked 78 = .ok (.invokevirtual 128, 3) := by decide +kernel
theorem dL_isClocked_81 : decode cL_isClocked 81 = .ok (.iload_n 2, 1) := by decide +kernel
theorem dL_isClocked_82 : decode cL_isClocked 82 = .ok (.if_icmp .ne 32, 3) := by decide +kernel
theorem dL_isClocked_85 : decode cL_isClocked 85 = .ok (.aload_n 0, 1) := by decide +kernel
theorem dL_isClocked_86 : decode cL_isClocked 86 = .ok (.bipush 7, 2) := by decide +kernel
theorem dL_isClocked_88 : decode cL_isClocked 88 = .ok (.invokevirtual 38, 3) := by decide +kernel
theorem dL_isClocked_91 : decode cL_isClocked 91 = .ok (.iload 5, 2) := by decide +kernel
theorem dL_isClocked_93 : decode cL_isClocked 93 = .ok (.if_icmp .le 7, 3) := by decide +kernel
theorem dL_isClocked_96 : decode cL_isClocked 96 = .ok (.iconst 1, 1) := by decide +kernel
theorem dL_isClocked_97 : decode cL_isClocked 97 = .ok (.goto 4, 3) := by decide +kernel
theorem dL_isClocked_100 : decode cL_isClocked 100 = .ok (.iconst 0, 1) := by decide +kernel
theorem dL_isClocked_101 : decode cL_isClocked 101 = .ok (.iload 6, 2) := by decide +kernel
theorem dL_isClocked_103 : decode cL_isClocked 103 = .ok (.ifCond .le 7, 3) := by decide +kernel
theorem dL_isClocked_106 : decode cL_isClocked 106 = .ok (.iconst 1, 1) := by decide +kernel
theorem dL_isClocked_107 : decode cL_isClocked 107 = .ok (.goto 4, 3) := by decide +kernel
theorem dL_isClocked_110 : decode cL_isClocked 110 = .ok (.iconst 0, 1) := by decide +kernel
theorem dL_isClocked_111 : decode cL_isClocked 111 = .ok (.if_icmp .eq 5, 3) := by decide +kernel
theorem dL_isClocked_114 : decode cL_isClocked 114 = .ok (.iconst 0, 1) := by decide +kernel
theorem dL_isClocked_115 : decode cL_isClocked 115 = .ok (.ireturn, 1) := by decide +kernel
theorem dL_isClocked_116 : decode cL_isClocked 116 = .ok (.iconst 0, 1) := by decide +kernel
theorem dL_isClocked_117 : decode cL_isClocked 117 = .ok (.istore 7, 2) := by decide +kernel
theorem dL_isClocked_119 : decode cL_isClocked 119 = .ok (.iconst 0, 1) := by decide +kernel
theorem dL_isClocked_120 : decode cL_isClocked 120 = .ok (.istore 8, 2) := by decide +kernel
theorem dL_isClocked_122 : decode cL_isClocked 122 = .ok (.iload 8, 2) := by decide +kernel
theorem dL_isClocked_124 : decode cL_isClocked 124 = .ok (.aload_n 0, 1) := by decide +kernel
theorem dL_isClocked_125 : decode cL_isClocked 125 = .ok (.bipush 7, 2) := by decide +kernel
theorem dL_isClocked_127 : decode cL_isClocked 127 = .ok (.invokevirtual 38, 3) := by decide +kernel
theorem dL_isClocked_130 : decode cL_isClocked 130 = .ok (.iload 5, 2) := by decide +kernel
theorem dL_isClocked_132 : decode cL_isClocked 132 = .ok (.isub, 1) := by decide +kernel
theorem dL_isClocked_133 : decode cL_isClocked 133 = .ok (.if_icmp .ge 80, 3) := by decide +kernel
theorem dL_isClocked_136 : decode cL_isClocked 136 = .ok (.iload 8, 2) := by decide +kernel
theorem dL_isClocked_138 : decode cL_isClocked 138 = .ok (.bipush 20, 2) := by decide +kernel
theorem dL_isClocked_140 : decode cL_isClocked 140 = .ok (.if_icmp .ge 73, 3) := by decide +kernel
theorem dL_isClocked_143 : decode cL_isClocked 143 = .ok (.aload_n 0, 1) := by decide +kernel
theorem dL_isClocked_144 : decode cL_isClocked 144 = .ok (.iload 8, 2) := by decide +kernel
theorem dL_isClocked_146 : decode cL_isClocked 146 = .ok (.iconst 0, 1) := by decide +kernel
theorem dL_isClocked_147 : decode cL_isClocked 147 = .ok (.invokevirtual 131, 3) := by decide +kernel
theorem dL_isClocked_150 : decode cL_isClocked 150 = .ok (.iload_n 1, 1) := by decide +kernel
theorem dL_isClocked_151 : decode cL_isClocked 151 = .ok (.if_icmp .ne 42, 3) := by decide +kernel
theorem dL_isClocked_154 : decode cL_isClocked 154 = .ok (.aload_n 0, 1) := by decide +kernel
theorem dL_isClocked_155 : decode cL_isClocked 155 = .ok (.iload 8, 2) := by decide +kernel
theorem dL_isClocked_157 : decode cL_isClocked 157 = .ok (.iconst 3, 1) := by decide +kernel
theorem dL_isClocked_158 : decode cL_isClocked 158 = .ok (.invokevirtual 131, 3) := by decide +kernel
theorem dL_isClocked_161 : decode cL_isClocked 161 = .ok (.iload 4, 2) := by decide +kernel
theorem dL_isClocked_163 : decode cL_isClocked 163 = .ok (.if_icmp .lt 30, 3) := by decide +kernel
theorem dL_isClocked_166 : decode cL_isClocked 166 = .ok (.aload_n 0, 1) := by decide +kernel
theorem dL_isClocked_167 : decode cL_isClocked 167 = .ok (.iload 8, 2) := by decide +kernel
theorem dL_isClocked_169 : decode cL_isClocked 169 = .ok (.iconst 3, 1) := by decide +kernel
theorem dL_isClocked_170 : decode cL_isClocked 170 = .ok (.invokevirtual 131, 3) := by decide +kernel
theorem dL_isClocked_173 : decode cL_isClocked 173 = .ok (.bipush 99, 2) := by decide +kernel
theorem dL_isClocked_175 : decode cL_isClocked 175 = .ok (.if_icmp .gt 18, 3) := by decide +kernel
theorem dL_isClocked_178 : decode cL_isClocked 178 = .ok (.aload_n 0, 1) := by decide +kernel
theorem dL_isClocked_179 : decode cL_isClocked 179 = .ok (.iload 8, 2) := by decide +kernel
theorem dL_isClocked_181 : decode cL_isClocked 181 = .ok (.iconst 4, 1) := by decide +kernel
theorem dL_isClocked_182 : decode cL_isClocked 182 = .ok (.invokevirtual 131, 3) := by decide +kernel
theorem dL_isClocked_185 : decode cL_isClocked 185 = .ok (.aload_n 0, 1) := by decide +kernel
theorem dL_isClocked_186 : decode cL_isClocked 186 = .ok (.iconst 0, 1) := by decide +kernel
theorem dL_isClocked_187 : decode cL_isClocked 187 = .ok (.invokevirtual 38, 3) := by decide +kernel
theorem dL_isClocked_190 : decode cL_isClocked 190 = .ok (.if_icmp .eq 5, 3) := by decide +kernel
theorem dL_isClocked_193 : decode cL_isClocked 193 = .ok (.iconst 0, 1) := by decide +kernel
theorem dL_isClocked_194 : decode cL_isClocked 194 = .ok (.ireturn, 1) := by decide +kernel
theorem dL_isClocked_195 : decode cL_isClocked 195 = .ok (.iload 7, 2) := by decide +kernel
theorem dL_isClocked_197 : decode cL_isClocked 197 = .ok (.aload_n 0, 1) := by decide +kernel
theorem dL_isClocked_198 : decode cL_isClocked 198 = .ok (.iload 8, 2) := by decide +kernel
theorem dL_isClocked_200 : decode cL_isClocked 200 = .ok (.iconst 2, 1) := by decide +kernel
theorem dL_isClocked_201 : decode cL_isClocked 201 = .ok (.invokevirtual 131, 3) := by decide +kernel
theorem dL_isClocked_204 : decode cL_isClocked 204 = .ok (.iadd, 1) := by decide +kernel
theorem dL_isClocked_205 : decode cL_isClocked 205 = .ok (.istore 7, 2) := by decide +kernel
theorem dL_isClocked_207 : decode cL_isClocked 207 = .ok (.iinc 8 1, 3) := by decide +kernel
theorem dL_isClocked_210 : decode cL_isClocked 210 = .ok (.goto (-88), 3) := by decide +kernel
theorem dL_isClocked_213 : decode cL_isClocked 213 = .ok (.iload 7, 2) := by decide +kernel
theorem dL_isClocked_215 : decode cL_isClocked 215 = .ok (.iload 6, 2) := by decide +kernel
theorem dL_isClocked_217 : decode cL_isClocked 217 = .ok (.if_icmp .ne 7, 3) := by decide +kernel
theorem dL_isClocked_220 : decode cL_isClocked 220 = .ok (.iconst 1, 1) := by decide +kernel
theorem dL_isClocked_221 : decode cL_isClocked 221 = .ok (.goto 4, 3) := by decide +kernel
theorem dL_isClocked_224 : decode cL_isClocked 224 = .ok (.iconst 0, 1) := by decide +kernel
theorem dL_isClocked_225 : decode cL_isClocked 225 = .ok (.ireturn, 1) := by decide +kernel
theorem dL_isUndone_0 : decode cL_isUndone 0 = .ok (.bipush 6, 2) := by decide +kernel
theorem dL_isUndone_2 : decode cL_isUndone 2 = .ok (.newarray .int, 2) := by decide +kernel
theorem dL_isUndone_4 : decode cL_isUndone 4 = .ok (.dup, 1) := by decide +kernel
theorem dL_isUndone_5 : decode cL_isUndone 5 = .ok (.iconst 0, 1) := by decide +kernel
theorem dL_isUndone_6 : decode cL_isUndone 6 = .ok (.aload_n 0, 1) := by decide +kernel
theorem dL_isUndone_7 : decode cL_isUndone 7 = .ok (.iload_n 2, 1) := by decide +kernel
theorem dL_isUndone_8 : decode cL_isUndone 8 = .ok (.iconst 0, 1) := by decide +kernel
theorem dL_isUndone_9 : decode cL_isUndone 9 = .ok (.invokevirtual 70, 3) := by decide +kernel
theorem dL_isUndone_12 : decode cL_isUndone 12 = .ok (.iastore, 1) := by decide +kernel
theorem dL_isUndone_13 : decode cL_isUndone 13 = .ok (.dup, 1) := by decide +kernel
theorem dL_isUndone_14 : decode cL_isUndone 14 = .ok (.iconst 1, 1) := by decide +kernel
theorem dL_isUndone_15 : decode cL_isUndone 15 = .ok (.aload_n 0, 1) := by decide +kernel
theorem dL_isUndone_16 : decode cL_isUndone 16 = .ok (.iload_n 2, 1) := by decide +kernel
theorem dL_isUndone_17 : decode cL_isUndone 17 = .ok (.bipush 7, 2) := by decide +kernel
theorem dL_isUndone_19 : decode cL_isUndone 19 = .ok (.invokevirtual 70, 3) := by decide +kernel
theorem dL_isUndone_22 : decode cL_isUndone 22 = .ok (.iastore, 1) := by decide +kernel
theorem dL_isUndone_23 : decode cL_isUndone 23 = .ok (.dup, 1) := by decide +kernel
theorem dL_isUndone_24 : decode cL_isUndone 24 = .ok (.iconst 2, 1) := by decide +kernel
theorem dL_isUndone_25 : decode cL_isUndone 25 = .ok (.aload_n 0, 1) := by decide +kernel
theorem dL_isUndone_26 : decode cL_isUndone 26 = .ok (.iload_n 1, 1) := by decide +kernel
theorem dL_isUndone_27 : decode cL_isUndone 27 = .ok (.iconst 2, 1) := by decide +kernel
theorem dL_isUndone_28 : decode cL_isUndone 28 = .ok (.invokevirtual 41, 3) := by decide +kernel
theorem dL_isUndone_31 : decode cL_isUndone 31 = .ok (.iastore, 1) := by decide +kernel
theorem dL_isUndone_32 : decode cL_isUndone 32 = .ok (.dup, 1) := by decide +kernel
theorem dL_isUndone_33 : decode cL_isUndone 33 = .ok (.iconst 3, 1) := by decide +kernel
theorem dL_isUndone_34 : decode cL_isUndone 34 = .ok (.aload_n 0, 1) := by decide +kernel
theorem dL_isUndone_35 : decode cL_isUndone 35 = .ok (.iload_n 1, 1) := by decide +kernel
theorem dL_isUndone_36 : decode cL_isUndone 36 = .ok (.iconst 5, 1) := by decide +kernel
theorem dL_isUndone_37 : decode cL_isUndone 37 = .ok (.invokevirtual 41, 3) := by decide +kernel
theorem dL_isUndone_40 : decode cL_isUndone 40 = .ok (.iastore, 1) := by decide +kernel
theorem dL_isUndone_41 : decode cL_isUndone 41 = .ok (.dup, 1) := by decide +kernel
theorem dL_isUndone_42 : decode cL_isUndone 42 = .ok (.iconst 4, 1) := by decide +kernel
theorem dL_isUndone_43 : decode cL_isUndone 43 = .ok (.aload_n 0, 1) := by decide +kernel
theorem dL_isUndone_44 : decode cL_isUndone 44 = .ok (.bipush 9, 2) := by decide +kernel
theorem dL_isUndone_46 : decode cL_isUndone 46 = .ok (.invokevirtual 38, 3) := by decide +kernel
theorem dL_isUndone_49 : decode cL_isUndone 49 = .ok (.iastore, 1) := by decide +kernel
theorem dL_isUndone_50 : decode cL_isUndone 50 = .ok (.dup, 1) := by decide +kernel
theorem dL_isUndone_51 : decode cL_isUndone 51 = .ok (.iconst 5, 1) := by decide +kernel
theorem dL_isUndone_52 : decode cL_isUndone 52 = .ok (.aload_n 0, 1) := by decide +kernel
theorem dL_isUndone_53 : decode cL_isUndone 53 = .ok (.bipush 7, 2) := by decide +kernel
theorem dL_isUndone_55 : decode cL_isUndone 55 = .ok (.invokevirtual 38, 3) := by decide +kernel
theorem dL_isUndone_58 : decode cL_isUndone 58 = .ok (.iastore, 1) := by decide +kernel
theorem dL_isUndone_59 : decode cL_isUndone 59 = .ok (.astore 6, 2) := by decide +kernel
theorem dL_isUndone_61 : decode cL_isUndone 61 = .ok (.aload_n 0, 1) := by decide +kernel
theorem dL_isUndone_62 : decode cL_isUndone 62 = .ok (.aload_n 0, 1) := by decide +kernel
theorem dL_isUndone_63 : decode cL_isUndone 63 = .ok (.iload_n 1, 1) := by decide +kernel
theorem dL_isUndone_64 : decode cL_isUndone 64 = .ok (.iconst 0, 1) := by decide +kernel
theorem dL_isUndone_65 : decode cL_isUndone 65 = .ok (.invokevirtual 41, 3) := by decide +kernel
theorem dL_isUndone_68 : decode cL_isUndone 68 = .ok (.iconst 0, 1) := by decide +kernel
theorem dL_isUndone_69 : decode cL_isUndone 69 = .ok (.invokevirtual 53, 3) := by decide +kernel
theorem dL_isUndone_72 : decode cL_isUndone 72 = .ok (.istore 7, 2) := by decide +kernel
theorem dL_isUndone_74 : decode cL_isUndone 74 = .ok (.aload_n 0, 1) := by decide +kernel
theorem dL_isUndone_75 : decode cL_isUndone 75 = .ok (.iload_n 1, 1) := by decide +kernel
theorem dL_isUndone_76 : decode cL_isUndone 76 = .ok (.iload_n 2, 1) := by decide +kernel
theorem dL_isUndone_77 : decode cL_isUndone 77 = .ok (.iload_n 3, 1) := by decide +kernel
theorem dL_isUndone_78 : decode cL_isUndone 78 = .ok (.iload 4, 2) := by decide +kernel
theorem dL_isUndone_80 : decode cL_isUndone 80 = .ok (.invokevirtual 134, 3) := by decide +kernel
theorem dL_isUndone_83 : decode cL_isUndone 83 = .ok (.istore 8, 2) := by decide +kernel
theorem dL_isUndone_85 : decode cL_isUndone 85 = .ok (.iload 8, 2) := by decide +kernel
theorem dL_isUndone_87 : decode cL_isUndone 87 = .ok (.iload_n 3, 1) := by decide +kernel
theorem dL_isUndone_88 : decode cL_isUndone 88 = .ok (.iload 4, 2) := by decide +kernel
theorem dL_isUndone_90 : decode cL_isUndone 90 = .ok (.imul, 1) := by decide +kernel
theorem dL_isUndone_91 : decode cL_isUndone 91 = .ok (.iload_n 3, 1) := by decide +kernel
theorem dL_isUndone_92 : decode cL_isUndone 92 = .ok (.iload 4, 2) := by decide +kernel
theorem dL_isUndone_94 : decode cL_isUndone 94 = .ok (.imul, 1) := by decide +kernel
theorem dL_isUndone_95 : decode cL_isUndone 95 = .ok (.bipush 20, 2) := by decide +kernel
theorem dL_isUndone_97 : decode cL_isUndone 97 = .ok (.idiv, 1) := by decide +kernel
theorem dL_isUndone_98 : decode cL_isUndone 98 = .ok (.isub, 1) := by decide +kernel
theorem dL_isUndone_99 : decode cL_isUndone 99 = .ok (.if_icmp .ne 40, 3) := by decide +kernel
theorem dL_isUndone_102 : decode cL_isUndone 102 = .ok (.aload_n 0, 1) := by decide +kernel
theorem dL_isUndone_103 : decode cL_isUndone 103 = .ok (.aload_n 0, 1) := by decide +kernel
theorem dL_isUndone_104 : decode cL_isUndone 104 = .ok (.iload_n 1, 1) := by decide +kernel
theorem dL_isUndone_105 : decode cL_isUndone 105 = .ok (.iconst 0, 1) := by decide +kernel
theorem dL_isUndone_106 : decode cL_isUndone 106 = .ok (.invokevirtual 41, 3) := by decide +kernel
theorem dL_isUndone_109 : decode cL_isUndone 109 = .ok (.iconst 0, 1) := by decide +kernel
theorem dL_isUndone_110 : decode cL_isUndone 110 = .ok (.invokevirtual 53, 3) := by decide +kernel
theorem dL_isUndone_113 : decode cL_isUndone 113 = .ok (.iload 7, 2) := by decide +kernel
theorem dL_isUndone_115 : decode cL_isUndone 115 = .ok (.iload 8, 2) := by decide +kernel
theorem dL_isUndone_117 : decode cL_isUndone 117 = .ok (.iadd, 1) := by decide +kernel
theorem dL_isUndone_118 : decode cL_isUndone 118 = .ok (.if_icmp .ne 21, 3) := by decide +kernel
theorem dL_isUndone_121 : decode cL_isUndone 121 = .ok (.aload_n 0, 1) := by decide +kernel
theorem dL_isUndone_122 : decode cL_isUndone 122 = .ok (.iload_n 2, 1) := by decide +kernel
theorem dL_isUndone_123 : decode cL_isUndone 123 = .ok (.iconst 0, 1) := by decide +kernel
theorem dL_isUndone_124 : decode cL_isUndone 124 = .ok (.invokevirtual 70, 3) := by decide +kernel
theorem dL_isUndone_127 : decode cL_isUndone 127 = .ok (.aload 6, 2) := by decide +kernel
theorem dL_isUndone_129 : decode cL_isUndone 129 = .ok (.iconst 0, 1) := by decide +kernel
theorem dL_isUndone_130 : decode cL_isUndone 130 = .ok (.iaload, 1) := by decide +kernel
theorem dL_isUndone_131 : decode cL_isUndone 131 = .ok (.iload_n 3, 1) := by decide +kernel
theorem dL_isUndone_132 : decode cL_isUndone 132 = .ok (.iload 4, 2) := by decide +kernel
theorem dL_isUndone_134 : decode cL_isUndone 134 = .ok (.imul, 1) := by decide +kernel
theorem dL_isUndone_135 : decode cL_isUndone 135 = .ok (.isub, 1) := by decide +kernel
theorem dL_isUndone_136 : decode cL_isUndone 136 = .ok (.if_icmp .le 5, 3) := by decide +kernel
theorem dL_isUndone_139 : decode cL_isUndone 139 = .ok (.iconst 0, 1) := by decide +kernel
theorem dL_isUndone_140 : decode cL_isUndone 140 = .ok (.ireturn, 1) := by decide +kernel
theorem dL_isUndone_141 : decode cL_isUndone 141 = .ok (.iload 5, 2) := by decide +kernel
theorem dL_isUndone_143 : decode cL_isUndone 143 = .ok (.ifCond .eq 39, 3) := by decide +kernel
theorem dL_isUndone_146 : decode cL_isUndone 146 = .ok (.aload_n 0, 1) := by decide +kernel
theorem dL_isUndone_147 : decode cL_isUndone 147 = .ok (.iload_n 1, 1) := by decide +kernel
theorem dL_isUndone_148 : decode cL_isUndone 148 = .ok (.iconst 2, 1) := by decide +kernel
theorem dL_isUndone_149 : decode cL_isUndone 149 = .ok (.invokevirtual 41, 3) := by decide +kernel
theorem dL_isUndone_152 : decode cL_isUndone 152 = .ok (.aload 6, 2) := by decide +kernel
theorem dL_isUndone_154 : decode cL_isUndone 154 = .ok (.iconst 2, 1) := by decide +kernel
theorem dL_isUndone_155 : decode cL_isUndone 155 = .ok (.iaload, 1) := by decide +kernel
theorem dL_isUndone_156 : decode cL_isUndone 156 = .ok (.iload_n 3, 1) := by decide +kernel
theorem dL_isUndone_157 : decode cL_isUndone 157 = .ok (.isub, 1) := by decide +kernel
theorem dL_isUndone_158 : decode cL_isUndone 158 = .ok (.if_icmp .ne 22, 3) := by decide +kernel
theorem dL_isUndone_161 : decode cL_isUndone 161 = .ok (.aload_n 0, 1) := by decide +kernel
theorem dL_isUndone_162 : decode cL_isUndone 162 = .ok (.bipush 7, 2) := by decide +kernel
theorem dL_isUndone_164 : decode cL_isUndone 164 = .ok (.invokevirtual 38, 3) := by decide +kernel
theorem dL_isUndone_167 : decode cL_isUndone 167 = .ok (.aload 6, 2) := by decide +kernel
theorem dL_isUndone_169 : decode cL_isUndone 169 = .ok (.iconst 5, 1) := by decide +kernel
theorem dL_isUndone_170 : decode cL_isUndone 170 = .ok (.iaload, 1) := by decide +kernel
theorem dL_isUndone_171 : decode cL_isUndone 171 = .ok (.iconst 1, 1) := by decide +kernel
theorem dL_isUndone_172 : decode cL_isUndone 172 = .ok (.iadd, 1) := by decide +kernel
theorem dL_isUndone_173 : decode cL_isUndone 173 = .ok (.if_icmp .ne 7, 3) := by decide +kernel
theorem dL_isUndone_176 : decode cL_isUndone 176 = .ok (.iconst 1, 1) := by decide +kernel
theorem dL_isUndone_177 : decode cL_isUndone 177 = .ok (.goto 4, 3) := by decide +kernel
theorem dL_isUndone_180 : decode cL_isUndone 180 = .ok (.iconst 0, 1) := by decide +kernel
theorem dL_isUndone_181 : decode cL_isUndone 181 = .ok (.ireturn, 1) := by decide +kernel
theorem dL_isUndone_182 : decode cL_isUndone 182 = .ok (.bipush 6, 2) := by decide +kernel
theorem dL_isUndone_184 : decode cL_isUndone 184 = .ok (.newarray .int, 2) := by decide +kernel
theorem dL_isUndone_186 : decode cL_isUndone 186 = .ok (.dup, 1) := by decide +kernel
theorem dL_isUndone_187 : decode cL_isUndone 187 = .ok (.iconst 0, 1) := by decide +kernel
theorem dL_isUndone_188 : decode cL_isUndone 188 = .ok (.aload_n 0, 1) := by decide +kernel
theorem dL_isUndone_189 : decode cL_isUndone 189 = .ok (.invokevirtual 125, 3) := by decide +kernel
theorem dL_isUndone_192 : decode cL_isUndone 192 = .ok (.iload_n 3, 1) := by decide +kernel
theorem dL_isUndone_193 : decode cL_isUndone 193 = .ok (.if_icmp .ne 12, 3) := by decide +kernel
theorem dL_isUndone_196 : decode cL_isUndone 196 = .ok (.aload_n 0, 1) := by decide +kernel
theorem dL_isUndone_197 : decode cL_isUndone 197 = .ok (.iload_n 2, 1) := by decide +kernel
theorem dL_isUndone_198 : decode cL_isUndone 198 = .ok (.iconst 0, 1) := by decide +kernel
theorem dL_isUndone_199 : decode cL_isUndone 199 = .ok (.invokevirtual 70, 3) := by decide +kernel
theorem dL_isUndone_202 : decode cL_isUndone 202 = .ok (.goto 6, 3) := by decide +kernel
theorem dL_isUndone_205 : decode cL_isUndone 205 = .ok (.sipush (-9999), 3) := by decide +kernel
theorem dL_isUndone_208 : decode cL_isUndone 208 = .ok (.iastore, 1) := by decide +kernel
theorem dL_isUndone_209 : decode cL_isUndone 209 = .ok (.dup, 1) := by decide +kernel
theorem dL_isUndone_210 : decode cL_isUndone 210 = .ok (.iconst 1, 1) := by decide +kernel
theorem dL_isUndone_211 : decode cL_isUndone 211 = .ok (.aload_n 0, 1) := by decide +kernel
theorem dL_isUndone_212 : decode cL_isUndone 212 = .ok (.iload_n 2, 1) := by decide +kernel
theorem dL_isUndone_213 : decode cL_isUndone 213 = .ok (.bipush 7, 2) := by decide +kernel
theorem dL_isUndone_215 : decode cL_isUndone 215 = .ok (.invokevirtual 70, 3) := by decide +kernel
theorem dL_isUndone_218 : decode cL_isUndone 218 = .ok (.iastore, 1) := by decide +kernel
theorem dL_isUndone_219 : decode cL_isUndone 219 = .ok (.dup, 1) := by decide +kernel
theorem dL_isUndone_220 : decode cL_isUndone 220 = .ok (.iconst 2, 1) := by decide +kernel
theorem dL_isUndone_221 : decode cL_isUndone 221 = .ok (.aload_n 0, 1) := by decide +kernel
theorem dL_isUndone_222 : decode cL_isUndone 222 = .ok (.iload_n 1, 1) := by decide +kernel
theorem dL_isUndone_223 : decode cL_isUndone 223 = .ok (.iconst 2, 1) := by decide +kernel
theorem dL_isUndone_224 : decode cL_isUndone 224 = .ok (.invokevirtual 41, 3) := by decide +kernel
theorem dL_isUndone_227 : decode cL_isUndone 227 = .ok (.iastore, 1) := by decide +kernel
theorem dL_isUndone_228 : decode cL_isUndone 228 = .ok (.dup, 1) := by decide +kernel
theorem dL_isUndone_229 : decode cL_isUndone 229 = .ok (.iconst 3, 1) := by decide +kernel
theorem dL_isUndone_230 : decode cL_isUndone 230 = .ok (.aload_n 0, 1) := by decide +kernel
theorem dL_isUndone_231 : decode cL_isUndone 231 = .ok (.iload_n 1, 1) := by decide +kernel
theorem dL_isUndone_232 : decode cL_isUndone 232 = .ok (.iconst 5, 1) := by decide +kernel
theorem dL_isUndone_233 : decode cL_isUndone 233 = .ok (.invokevirtual 41, 3) := by decide +kernel
theorem dL_isUndone_236 : decode cL_isUndone 236 = .ok (.iastore, 1) := by decide +kernel
theorem dL_isUndone_237 : decode cL_isUndone 237 = .ok (.dup, 1) := by decide +kernel
theorem dL_isUndone_238 : decode cL_isUndone 238 = .ok (.iconst 4, 1) := by decide +kernel
theorem dL_isUndone_239 : decode cL_isUndone 239 = .ok (.aload_n 0, 1) := by decide +kernel
theorem dL_isUndone_240 : decode cL_isUndone 240 = .ok (.bipush 9, 2) := by decide +kernel
theorem dL_isUndone_242 : decode cL_isUndone 242 = .ok (.invokevirtual 38, 3) := by decide +kernel
theorem dL_isUndone_245 : decode cL_isUndone 245 = .ok (.iastore, 1) := by decide +kernel
theorem dL_isUndone_246 : decode cL_isUndone 246 = .ok (.dup, 1) := by decide +kernel
theorem dL_isUndone_247 : decode cL_isUndone 247 = .ok (.iconst 5, 1) := by decide +kernel
theorem dL_isUndone_248 : decode cL_isUndone 248 = .ok (.aload_n 0, 1) := by decide +kernel
theorem dL_isUndone_249 : decode cL_isUndone 249 = .ok (.bipush 7, 2) := by decide +kernel
theorem dL_isUndone_251 : decode cL_isUndone 251 = .ok (.invokevirtual 38, 3) := by decide +kernel
theorem dL_isUndone_254 : decode cL_isUndone 254 = .ok (.iastore, 1) := by decide +kernel
theorem dL_isUndone_255 : decode cL_isUndone 255 = .ok (.astore 9, 2) := by decide +kernel
theorem dL_isUndone_257 : decode cL_isUndone 257 = .ok (.iconst 0, 1) := by decide +kernel
theorem dL_isUndone_258 : decode cL_isUndone 258 = .ok (.istore 10, 2) := by decide +kernel
theorem dL_isUndone_260 : decode cL_isUndone 260 = .ok (.iload 10, 2) := by decide +kernel
theorem dL_isUndone_262 : decode cL_isUndone 262 = .ok (.bipush 6, 2) := by decide +kernel
theorem dL_isUndone_264 : decode cL_isUndone 264 = .ok (.if_icmp .ge 24, 3) := by decide +kernel
theorem dL_isUndone_267 : decode cL_isUndone 267 = .ok (.aload 9, 2) := by decide +kernel
theorem dL_isUndone_269 : decode cL_isUndone 269 = .ok (.iload 10, 2) := by decide +kernel
theorem dL_isUndone_271 : decode cL_isUndone 271 = .ok (.iaload, 1) := by decide +kernel
theorem dL_isUndone_272 : decode cL_isUndone 272 = .ok (.aload 6, 2) := by decide +kernel
theorem dL_isUndone_274 : decode cL_isUndone 274 = .ok (.iload 10, 2) := by decide +kernel
theorem dL_isUndone_276 : decode cL_isUndone 276 = .ok (.iaload, 1) := by decide +kernel
theorem dL_isUndone_277 : decode cL_isUndone 277 = .ok (.if_icmp .eq 5, 3) := by decide +kernel
theorem dL_isUndone_280 : decode cL_isUndone 280 = .ok (.iconst 0, 1) := by decide +kernel
theorem dL_isUndone_281 : decode cL_isUndone 281 = .ok (.ireturn, 1) := by decide +kernel
theorem dL_isUndone_282 : decode cL_isUndone 282 = .ok (.iinc 10 1, 3) := by decide +kernel
theorem dL_isUndone_285 : decode cL_isUndone 285 = .ok (.goto (-25), 3) := by decide +kernel
theorem dL_isUndone_288 : decode cL_isUndone 288 = .ok (.aload_n 0, 1) := by decide +kernel
theorem dL_isUndone_289 : decode cL_isUndone 289 = .ok (.aload_n 0, 1) := by decide +kernel
theorem dL_isUndone_290 : decode cL_isUndone 290 = .ok (.iload_n 1, 1) := by decide +kernel
theorem dL_isUndone_291 : decode cL_isUndone 291 = .ok (.iconst 0, 1) := by decide +kernel
theorem dL_isUndone_292 : decode cL_isUndone 292 = .ok (.invokevirtual 41, 3) := by decide +kernel
theorem dL_isUndone_295 : decode cL_isUndone 295 = .ok (.iconst 0, 1) := by decide +kernel
theorem dL_isUndone_296 : decode cL_isUndone 296 = .ok (.invokevirtual 53, 3) := by decide +kernel
theorem dL_isUndone_299 : decode cL_isUndone 299 = .ok (.iload 7, 2) := by decide +kernel
theorem dL_isUndone_301 : decode cL_isUndone 301 = .ok (.if_icmp .ne 17, 3) := by decide +kernel
theorem dL_isUndone_304 : decode cL_isUndone 304 = .ok (.aload_n 0, 1) := by decide +kernel
theorem dL_isUndone_305 : decode cL_isUndone 305 = .ok (.iload_n 1, 1) := by decide +kernel
theorem dL_isUndone_306 : decode cL_isUndone 306 = .ok (.bipush 7, 2) := by decide +kernel
theorem dL_isUndone_308 : decode cL_isUndone 308 = .ok (.invokevirtual 41, 3) := by decide +kernel
theorem dL_isUndone_311 : decode cL_isUndone 311 = .ok (.ifCond .ne 7, 3) := by decide +kernel
theorem dL_isUndone_314 : decode cL_isUndone 314 = .ok (.iconst 1, 1) := by decide +kernel
theorem dL_isUndone_315 : decode cL_isUndone 315 = .ok (.goto 4, 3) := by decide +kernel
theorem dL_isUndone_318 : decode cL_isUndone 318 = .ok (.iconst 0, 1) := by decide +kernel
theorem dL_isUndone_319 : decode cL_isUndone 319 = .ok (.ireturn, 1) := by decide +kernel
theorem dL_isPassed_0 : decode cL_isPassed 0 = .ok (.aload_n 0, 1) := by decide +kernel
theorem dL_isPassed_1 : decode cL_isPassed 1 = .ok (.iconst 1, 1) := by decide +kernel
theorem dL_isPassed_2 : decode cL_isPassed 2 = .ok (.iload_n 2, 1) := by decide +kernel
theorem dL_isPassed_3 : decode cL_isPassed 3 = .ok (.invokevirtual 138, 3) := by decide +kernel
theorem dL_isPassed_6 : decode cL_isPassed 6 = .ok (.ifCond .ge 5, 3) := by decide +kernel
theorem dL_isPassed_9 : decode cL_isPassed 9 = .ok (.iconst 0, 1) := by decide +kernel
theorem dL_isPassed_10 : decode cL_isPassed 10 = .ok (.ireturn, 1) := by decide +kernel
theorem dL_isPassed_11 : decode cL_isPassed 11 = .ok (.bipush 6, 2) := by decide +kernel
theorem dL_isPassed_13 : decode cL_isPassed 13 = .ok (.newarray .int, 2) := by decide +kernel
theorem dL_isPassed_15 : decode cL_isPassed 15 = .ok (.astore_n 3, 1) := by decide +kernel
theorem dL_isPassed_16 : decode cL_isPassed 16 = .ok (.iconst 0, 1) := by decide +kernel
theorem dL_isPassed_17 : decode cL_isPassed 17 = .ok (.istore 4, 2) := by decide +kernel
theorem dL_isPassed_19 : decode cL_isPassed 19 = .ok (.iload 4, 2) := by decide +kernel
theorem dL_isPassed_21 : decode cL_isPassed 21 = .ok (.bipush 6, 2) := by decide +kernel
theorem dL_isPassed_23 : decode cL_isPassed 23 = .ok (.if_icmp .ge 19, 3) := by decide +kernel
theorem dL_isPassed_26 : decode cL_isPassed 26 = .ok (.aload_n 3, 1) := by decide +kernel
theorem dL_isPassed_27 : decode cL_isPassed 27 = .ok (.iload 4, 2) := by decide +kernel
theorem dL_isPassed_29 : decode cL_isPassed 29 = .ok (.aload_n 0, 1) := by decide +kernel
theorem dL_isPassed_30 : decode cL_isPassed 30 = .ok (.iload 4, 2) := by decide +kernel
theorem dL_isPassed_32 : decode cL_isPassed 32 = .ok (.invokevirtual 141, 3) := by decide +kernel
theorem dL_isPassed_35 : decode cL_isPassed 35 = .ok (.iastore, 1) := by decide +kernel
theorem dL_isPassed_36 : decode cL_isPassed 36 = .ok (.iinc 4 1, 3) := by decide +kernel
theorem dL_isPassed_39 : decode cL_isPassed 39 = .ok (.goto (-20), 3) := by decide +kernel
theorem dL_isPassed_42 : decode cL_isPassed 42 = .ok (.iload_n 1, 1) := by decide +kernel
theorem dL_isPassed_43 : decode cL_isPassed 43 = .ok (.iconst 1, 1) := by decide +kernel
theorem dL_isPassed_44 : decode cL_isPassed 44 = .ok (.if_icmp .le 16, 3) := by decide +kernel
theorem dL_isPassed_47 : decode cL_isPassed 47 = .ok (.aload_n 0, 1) := by decide +kernel
theorem dL_isPassed_48 : decode cL_isPassed 48 = .ok (.iload_n 1, 1) := by decide +kernel
theorem dL_isPassed_49 : decode cL_isPassed 49 = .ok (.iconst 1, 1) := by decide +kernel
theorem dL_isPassed_50 : decode cL_isPassed 50 = .ok (.isub, 1) := by decide +kernel
theorem dL_isPassed_51 : decode cL_isPassed 51 = .ok (.iload_n 2, 1) := by decide +kernel
theorem dL_isPassed_52 : decode cL_isPassed 52 = .ok (.invokevirtual 138, 3) := by decide +kernel
theorem dL_isPassed_55 : decode cL_isPassed 55 = .ok (.ifCond .ge 5, 3) := by decide +kernel
theorem dL_isPassed_58 : decode cL_isPassed 58 = .ok (.iconst 0, 1) := by decide +kernel
theorem dL_isPassed_59 : decode cL_isPassed 59 = .ok (.ireturn, 1) := by decide +kernel
theorem dL_isPassed_60 : decode cL_isPassed 60 = .ok (.iconst 0, 1) := by decide +kernel
theorem dL_isPassed_61 : decode cL_isPassed 61 = .ok (.istore 4, 2) := by decide +kernel
theorem dL_isPassed_63 : decode cL_isPassed 63 = .ok (.iload 4, 2) := by decide +kernel
theorem dL_isPassed_65 : decode cL_isPassed 65 = .ok (.bipush 6, 2) := by decide +kernel
theorem dL_isPassed_67 : decode cL_isPassed 67 = .ok (.if_icmp .ge 76, 3) := by decide +kernel
theorem dL_isPassed_70 : decode cL_isPassed 70 = .ok (.aload_n 0, 1) := by decide +kernel
theorem dL_isPassed_71 : decode cL_isPassed 71 = .ok (.iload 4, 2) := by decide +kernel
theorem dL_isPassed_73 : decode cL_isPassed 73 = .ok (.invokevirtual 141, 3) := by decide +kernel
theorem dL_isPassed_76 : decode cL_isPassed 76 = .ok (.aload_n 3, 1) := by decide +kernel
theorem dL_isPassed_77 : decode cL_isPassed 77 = .ok (.iload 4, 2) := by decide +kernel
theorem dL_isPassed_79 : decode cL_isPassed 79 = .ok (.iaload, 1) := by decide +kernel
theorem dL_isPassed_80 : decode cL_isPassed 80 = .ok (.ifCond .ge 7, 3) := by decide +kernel
theorem dL_isPassed_83 : decode cL_isPassed 83 = .ok (.iconst (-1), 1) := by decide +kernel
theorem dL_isPassed_84 : decode cL_isPassed 84 = .ok (.goto 15, 3) := by decide +kernel
theorem dL_isPassed_87 : decode cL_isPassed 87 = .ok (.iconst 0, 1) := by decide +kernel
theorem dL_isPassed_88 : decode cL_isPassed 88 = .ok (.aload_n 3, 1) := by decide +kernel
theorem dL_isPassed_89 : decode cL_isPassed 89 = .ok (.iload 4, 2) := by decide +kernel
theorem dL_isPassed_91 : decode cL_isPassed 91 = .ok (.iaload, 1) := by decide +kernel
theorem dL_isPassed_92 : decode cL_isPassed 92 = .ok (.iload_n 1, 1) := by decide +kernel
theorem dL_isPassed_93 : decode cL_isPassed 93 = .ok (.isub, 1) := by decide +kernel
theorem dL_isPassed_94 : decode cL_isPassed 94 = .ok (.iconst 1, 1) := by decide +kernel
theorem dL_isPassed_95 : decode cL_isPassed 95 = .ok (.iadd, 1) := by decide +kernel
theorem dL_isPassed_96 : decode cL_isPassed 96 = .ok (.invokestatic 111, 3) := by decide +kernel
theorem dL_isPassed_99 : decode cL_isPassed 99 = .ok (.if_icmp .ne 36, 3) := by decide +kernel
theorem dL_isPassed_102 : decode cL_isPassed 102 = .ok (.aload_n 0, 1) := by decide +kernel
theorem dL_isPassed_103 : decode cL_isPassed 103 = .ok (.iload 4, 2) := by decide +kernel
theorem dL_isPassed_105 : decode cL_isPassed 105 = .ok (.invokevirtual 141, 3) := by decide +kernel
theorem dL_isPassed_108 : decode cL_isPassed 108 = .ok (.ifCond .ne 7, 3) := by decide +kernel
theorem dL_isPassed_111 : decode cL_isPassed 111 = .ok (.iconst 1, 1) := by decide +kernel
theorem dL_isPassed_112 : decode cL_isPassed 112 = .ok (.goto 4, 3) := by decide +kernel
theorem dL_isPassed_115 : decode cL_isPassed 115 = .ok (.iconst 0, 1) := by decide +kernel
theorem dL_isPassed_116 : decode cL_isPassed 116 = .ok (.aload_n 0, 1) := by decide +kernel
theorem dL_isPassed_117 : decode cL_isPassed 117 = .ok (.iload 4, 2) := by decide +kernel
theorem dL_isPassed_119 : decode cL_isPassed 119 = .ok (.iconst 4, 1) := by decide +kernel
theorem dL_isPassed_120 : decode cL_isPassed 120 = .ok (.invokevirtual 47, 3) := by decide +kernel
theorem dL_isPassed_123 : decode cL_isPassed 123 = .ok (.iconst 1, 1) := by decide +kernel
theorem dL_isPassed_124 : decode cL_isPassed 124 = .ok (.if_icmp .ne 7, 3) := by decide +kernel
theorem dL_isPassed_127 : decode cL_isPassed 127 = .ok (.iconst 1, 1) := by decide +kernel
theorem dL_isPassed_128 : decode cL_isPassed 128 = .ok (.goto 4, 3) := by decide +kernel
theorem dL_isPassed_131 : decode cL_isPassed 131 = .ok (.iconst 0, 1) := by decide +kernel
theorem dL_isPassed_132 : decode cL_isPassed 132 = .ok (.if_icmp .eq 5, 3) := by decide +kernel
theorem dL_isPassed_135 : decode cL_isPassed 135 = .ok (.iconst 0, 1) := by decide +kernel
theorem dL_isPassed_136 : decode cL_isPassed 136 = .ok (.ireturn, 1) := by decide +kernel
theorem dL_isPassed_137 : decode cL_isPassed 137 = .ok (.iinc 4 1, 3) := by decide +kernel
theorem dL_isPassed_140 : decode cL_isPassed 140 = .ok (.goto (-77), 3) := by decide +kernel
theorem dL_isPassed_143 : decode cL_isPassed 143 = .ok (.iconst 1, 1) := by decide +kernel
theorem dL_isPassed_144 : decode cL_isPassed 144 = .ok (.ireturn, 1) := by decide +kernel
theorem dL_isSound_0 : decode cL_isSound 0 = .ok (.iload_n 2, 1) := by decide +kernel
theorem dL_isSound_1 : decode cL_isSound 1 = .ok (.aload_n 0, 1) := by decide +kernel
theorem dL_isSound_2 : decode cL_isSound 2 = .ok (.bipush 10, 2) := by decide +kernel
theorem dL_isSound_4 : decode cL_isSound 4 = .ok (.invokevirtual 38, 3) := by decide +kernel
theorem dL_isSound_7 : decode cL_isSound 7 = .ok (.iadd, 1) := by decide +kernel
theorem dL_isSound_8 : decode cL_isSound 8 = .ok (.istore 4, 2) := by decide +kernel
theorem dL_isSound_10 : decode cL_isSound 10 = .ok (.aload_n 0, 1) := by decide +kernel
theorem dL_isSound_11 : decode cL_isSound 11 = .ok (.bipush 8, 2) := by decide +kernel
theorem dL_isSound_13 : decode cL_isSound 13 = .ok (.invokevirtual 38, 3) := by decide +kernel
theorem dL_isSound_16 : decode cL_isSound 16 = .ok (.istore 5, 2) := by decide +kernel
theorem dL_isSound_18 : decode cL_isSound 18 = .ok (.aload_n 0, 1) := by decide +kernel
theorem dL_isSound_19 : decode cL_isSound 19 = .ok (.bipush 9, 2) := by decide +kernel
theorem dL_isSound_21 : decode cL_isSound 21 = .ok (.invokevirtual 38, 3) := by decide +kernel
theorem dL_isSound_24 : decode cL_isSound 24 = .ok (.istore 6, 2) := by decide +kernel
theorem dL_isSound_26 : decode cL_isSound 26 = .ok (.iconst 0, 1) := by decide +kernel
theorem dL_isSound_27 : decode cL_isSound 27 = .ok (.istore 7, 2) := by decide +kernel
theorem dL_isSound_29 : decode cL_isSound 29 = .ok (.iconst 0, 1) := by decide +kernel
theorem dL_isSound_30 : decode cL_isSound 30 = .ok (.istore 8, 2) := by decide +kernel
theorem dL_isSound_32 : decode cL_isSound 32 = .ok (.iload 8, 2) := by decide +kernel
theorem dL_isSound_34 : decode cL_isSound 34 = .ok (.aload_n 0, 1) := by decide +kernel
theorem dL_isSound_35 : decode cL_isSound 35 = .ok (.iconst 3, 1) := by decide +kernel
theorem dL_isSound_36 : decode cL_isSound 36 = .ok (.invokevirtual 38, 3) := by decide +kernel
theorem dL_isSound_39 : decode cL_isSound 39 = .ok (.if_icmp .ge 131, 3) := by decide +kernel
theorem dL_isSound_42 : decode cL_isSound 42 = .ok (.iload 4, 2) := by decide +kernel
theorem dL_isSound_44 : decode cL_isSound 44 = .ok (.aload_n 0, 1) := by decide +kernel
theorem dL_isSound_45 : decode cL_isSound 45 = .ok (.iload 8, 2) := by decide +kernel
theorem dL_isSound_47 : decode cL_isSound 47 = .ok (.iconst 2, 1) := by decide +kernel
theorem dL_isSound_48 : decode cL_isSound 48 = .ok (.invokevirtual 41, 3) := by decide +kernel
theorem dL_isSound_51 : decode cL_isSound 51 = .ok (.iadd, 1) := by decide +kernel
theorem dL_isSound_52 : decode cL_isSound 52 = .ok (.istore 4, 2) := by decide +kernel
theorem dL_isSound_54 : decode cL_isSound 54 = .ok (.iload 5, 2) := by decide +kernel
theorem dL_isSound_56 : decode cL_isSound 56 = .ok (.aload_n 0, 1) := by decide +kernel
theorem dL_isSound_57 : decode cL_isSound 57 = .ok (.iload 8, 2) := by decide +kernel
theorem dL_isSound_59 : decode cL_isSound 59 = .ok (.iconst 5, 1) := by decide +kernel
theorem dL_isSound_60 : decode cL_isSound 60 = .ok (.invokevirtual 41, 3) := by decide +kernel
theorem dL_isSound_63 : decode cL_isSound 63 = .ok (.iadd, 1) := by decide +kernel
theorem dL_isSound_64 : decode cL_isSound 64 = .ok (.istore 5, 2) := by decide +kernel
theorem dL_isSound_66 : decode cL_isSound 66 = .ok (.iload 7, 2) := by decide +kernel
theorem dL_isSound_68 : decode cL_isSound 68 = .ok (.aload_n 0, 1) := by decide +kernel
theorem dL_isSound_69 : decode cL_isSound 69 = .ok (.iload 8, 2) := by decide +kernel
theorem dL_isSound_71 : decode cL_isSound 71 = .ok (.bipush 7, 2) := by decide +kernel
theorem dL_isSound_73 : decode cL_isSound 73 = .ok (.invokevirtual 41, 3) := by decide +kernel
theorem dL_isSound_76 : decode cL_isSound 76 = .ok (.iconst 1, 1) := by decide +kernel
theorem dL_isSound_77 : decode cL_isSound 77 = .ok (.if_icmp .ne 7, 3) := by decide +kernel
theorem dL_isSound_80 : decode cL_isSound 80 = .ok (.iconst 1, 1) := by decide +kernel
theorem dL_isSound_81 : decode cL_isSound 81 = .ok (.goto 4, 3) := by decide +kernel
theorem dL_isSound_84 : decode cL_isSound 84 = .ok (.iconst 0, 1) := by decide +kernel
theorem dL_isSound_85 : decode cL_isSound 85 = .ok (.iadd, 1) := by decide +kernel
theorem dL_isSound_86 : decode cL_isSound 86 = .ok (.istore 7, 2) := by decide +kernel
theorem dL_isSound_88 : decode cL_isSound 88 = .ok (.aload_n 0, 1) := by decide +kernel
theorem dL_isSound_89 : decode cL_isSound 89 = .ok (.iload 8, 2) := by decide +kernel
theorem dL_isSound_91 : decode cL_isSound 91 = .ok (.iconst 4, 1) := by decide +kernel
theorem dL_isSound_92 : decode cL_isSound 92 = .ok (.invokevirtual 41, 3) := by decide +kernel
theorem dL_isSound_95 : decode cL_isSound 95 = .ok (.ifCond .lt 67, 3) := by decide +kernel
theorem dL_isSound_98 : decode cL_isSound 98 = .ok (.aload_n 0, 1) := by decide +kernel
theorem dL_isSound_99 : decode cL_isSound 99 = .ok (.iload 8, 2) := by decide +kernel
theorem dL_isSound_101 : decode cL_isSound 101 = .ok (.iconst 4, 1) := by decide +kernel
theorem dL_isSound_102 : decode cL_isSound 102 = .ok (.invokevirtual 41, 3) := by decide +kernel
theorem dL_isSound_105 : decode cL_isSound 105 = .ok (.bipush 110, 2) := by decide +kernel
theorem dL_isSound_107 : decode cL_isSound 107 = .ok (.if_icmp .gt 55, 3) := by decide +kernel
theorem dL_isSound_110 : decode cL_isSound 110 = .ok (.aload_n 0, 1) := by decide +kernel
theorem dL_isSound_111 : decode cL_isSound 111 = .ok (.iload 8, 2) := by decide +kernel
theorem dL_isSound_113 : decode cL_isSound 113 = .ok (.bipush 7, 2) := by decide +kernel
theorem dL_isSound_115 : decode cL_isSound 115 = .ok (.invokevirtual 41, 3) := by decide +kernel
theorem dL_isSound_118 : decode cL_isSound 118 = .ok (.iconst 1, 1) := by decide +kernel
theorem dL_isSound_119 : decode cL_isSound 119 = .ok (.if_icmp .le 21, 3) := by decide +kernel
theorem dL_isSound_122 : decode cL_isSound 122 = .ok (.aload_n 0, 1) := by decide +kernel
theorem dL_isSound_123 : decode cL_isSound 123 = .ok (.iload 8, 2) := by decide +kernel
theorem dL_isSound_125 : decode cL_isSound 125 = .ok (.iconst 2, 1) := by decide +kernel
theorem dL_isSound_126 : decode cL_isSound 126 = .ok (.invokevirtual 41, 3) := by decide +kernel
theorem dL_isSound_129 : decode cL_isSound 129 = .ok (.aload_n 0, 1) := by decide +kernel
theorem dL_isSound_130 : decode cL_isSound 130 = .ok (.iload 8, 2) := by decide +kernel
theorem dL_isSound_132 : decode cL_isSound 132 = .ok (.iconst 5, 1) := by decide +kernel
theorem dL_isSound_133 : decode cL_isSound 133 = .ok (.invokevirtual 41, 3) := by decide +kernel
theorem dL_isSound_136 : decode cL_isSound 136 = .ok (.iadd, 1) := by decide +kernel
theorem dL_isSound_137 : decode cL_isSound 137 = .ok (.ifCond .gt 25, 3) := by decide +kernel
theorem dL_isSound_140 : decode cL_isSound 140 = .ok (.aload_n 0, 1) := by decide +kernel
theorem dL_isSound_141 : decode cL_isSound 141 = .ok (.iload 8, 2) := by decide +kernel
theorem dL_isSound_143 : decode cL_isSound 143 = .ok (.bipush 7, 2) := by decide +kernel
theorem dL_isSound_145 : decode cL_isSound 145 = .ok (.invokevirtual 41, 3) := by decide +kernel
theorem dL_isSound_148 : decode cL_isSound 148 = .ok (.iconst 2, 1) := by decide +kernel
theorem dL_isSound_149 : decode cL_isSound 149 = .ok (.if_icmp .ge 15, 3) := by decide +kernel
theorem dL_isSound_152 : decode cL_isSound 152 = .ok (.aload_n 0, 1) := by decide +kernel
theorem dL_isSound_153 : decode cL_isSound 153 = .ok (.iload 8, 2) := by decide +kernel
theorem dL_isSound_155 : decode cL_isSound 155 = .ok (.iconst 2, 1) := by decide +kernel
theorem dL_isSound_156 : decode cL_isSound 156 = .ok (.invokevirtual 41, 3) := by decide +kernel
theorem dL_isSound_159 : decode cL_isSound 159 = .ok (.ifCond .ne 5, 3) := by decide +kernel
theorem dL_isSound_162 : decode cL_isSound 162 = .ok (.iconst 0, 1) := by decide +kernel
theorem dL_isSound_163 : decode cL_isSound 163 = .ok (.ireturn, 1) := by decide +kernel
theorem dL_isSound_164 : decode cL_isSound 164 = .ok (.iinc 8 1, 3) := by decide +kernel
theorem dL_isSound_167 : decode cL_isSound 167 = .ok (.goto (-135), 3) := by decide +kernel
theorem dL_isSound_170 : decode cL_isSound 170 = .ok (.iconst 0, 1) := by decide +kernel
theorem dL_isSound_171 : decode cL_isSound 171 = .ok (.istore 8, 2) := by decide +kernel
theorem dL_isSound_173 : decode cL_isSound 173 = .ok (.iconst 0, 1) := by decide +kernel
theorem dL_isSound_174 : decode cL_isSound 174 = .ok (.istore 9, 2) := by decide +kernel
theorem dL_isSound_176 : decode cL_isSound 176 = .ok (.iload 9, 2) := by decide +kernel
theorem dL_isSound_178 : decode cL_isSound 178 = .ok (.iconst 3, 1) := by decide +kernel
theorem dL_isSound_179 : decode cL_isSound 179 = .ok (.if_icmp .ge 107, 3) := by decide +kernel
theorem dL_isSound_182 : decode cL_isSound 182 = .ok (.iload 5, 2) := by decide +kernel
theorem dL_isSound_184 : decode cL_isSound 184 = .ok (.aload_n 0, 1) := by decide +kernel
theorem dL_isSound_185 : decode cL_isSound 185 = .ok (.iload 9, 2) := by decide +kernel
theorem dL_isSound_187 : decode cL_isSound 187 = .ok (.bipush 7, 2) := by decide +kernel
theorem dL_isSound_189 : decode cL_isSound 189 = .ok (.invokevirtual 70, 3) := by decide +kernel
theorem dL_isSound_192 : decode cL_isSound 192 = .ok (.iadd, 1) := by decide +kernel
theorem dL_isSound_193 : decode cL_isSound 193 = .ok (.istore 5, 2) := by decide +kernel
theorem dL_isSound_195 : decode cL_isSound 195 = .ok (.iload 6, 2) := by decide +kernel
theorem dL_isSound_197 : decode cL_isSound 197 = .ok (.aload_n 0, 1) := by decide +kernel
theorem dL_isSound_198 : decode cL_isSound 198 = .ok (.iload 9, 2) := by decide +kernel
theorem dL_isSound_200 : decode cL_isSound 200 = .ok (.iconst 0, 1) := by decide +kernel
theorem dL_isSound_201 : decode cL_isSound 201 = .ok (.invokevirtual 70, 3) := by decide +kernel
theorem dL_isSound_204 : decode cL_isSound 204 = .ok (.aload_n 0, 1) := by decide +kernel
theorem dL_isSound_205 : decode cL_isSound 205 = .ok (.iload 9, 2) := by decide +kernel
theorem dL_isSound_207 : decode cL_isSound 207 = .ok (.iconst 0, 1) := by decide +kernel
theorem dL_isSound_208 : decode cL_isSound 208 = .ok (.invokevirtual 53, 3) := by decide +kernel
theorem dL_isSound_211 : decode cL_isSound 211 = .ok (.iadd, 1) := by decide +kernel
theorem dL_isSound_212 : decode cL_isSound 212 = .ok (.iadd, 1) := by decide +kernel
theorem dL_isSound_213 : decode cL_isSound 213 = .ok (.istore 6, 2) := by decide +kernel
theorem dL_isSound_215 : decode cL_isSound 215 = .ok (.iload 8, 2) := by decide +kernel
theorem dL_isSound_217 : decode cL_isSound 217 = .ok (.aload_n 0, 1) := by decide +kernel
theorem dL_isSound_218 : decode cL_isSound 218 = .ok (.iload 9, 2) := by decide +kernel
theorem dL_isSound_220 : decode cL_isSound 220 = .ok (.iconst 3, 1) := by decide +kernel
theorem dL_isSound_221 : decode cL_isSound 221 = .ok (.invokevirtual 53, 3) := by decide +kernel
theorem dL_isSound_224 : decode cL_isSound 224 = .ok (.iadd, 1) := by decide +kernel
theorem dL_isSound_225 : decode cL_isSound 225 = .ok (.istore 8, 2) := by decide +kernel
theorem dL_isSound_227 : decode cL_isSound 227 = .ok (.iconst 4, 1) := by decide +kernel
theorem dL_isSound_228 : decode cL_isSound 228 = .ok (.istore 10, 2) := by decide +kernel
theorem dL_isSound_230 : decode cL_isSound 230 = .ok (.iload 10, 2) := by decide +kernel
theorem dL_isSound_232 : decode cL_isSound 232 = .ok (.bipush 7, 2) := by decide +kernel
theorem dL_isSound_234 : decode cL_isSound 234 = .ok (.if_icmp .ge 22, 3) := by decide +kernel
theorem dL_isSound_237 : decode cL_isSound 237 = .ok (.iload 4, 2) := by decide +kernel
theorem dL_isSound_239 : decode cL_isSound 239 = .ok (.aload_n 0, 1) := by decide +kernel
theorem dL_isSound_240 : decode cL_isSound 240 = .ok (.iload 9, 2) := by decide +kernel
theorem dL_isSound_242 : decode cL_isSound 242 = .ok (.iload 10, 2) := by decide +kernel
theorem dL_isSound_244 : decode cL_isSound 244 = .ok (.invokevirtual 70, 3) := by decide +kernel
theorem dL_isSound_247 : decode cL_isSound 247 = .ok (.iadd, 1) := by decide +kernel
theorem dL_isSound_248 : decode cL_isSound 248 = .ok (.istore 4, 2) := by decide +kernel
theorem dL_isSound_250 : decode cL_isSound 250 = .ok (.iinc 10 1, 3) := by decide +kernel
theorem dL_isSound_253 : decode cL_isSound 253 = .ok (.goto (-23), 3) := by decide +kernel
theorem dL_isSound_256 : decode cL_isSound 256 = .ok (.aload_n 0, 1) := by decide +kernel
theorem dL_isSound_257 : decode cL_isSound 257 = .ok (.iload 9, 2) := by decide +kernel
theorem dL_isSound_259 : decode cL_isSound 259 = .ok (.iconst 2, 1) := by decide +kernel
theorem dL_isSound_260 : decode cL_isSound 260 = .ok (.invokevirtual 53, 3) := by decide +kernel
theorem dL_isSound_263 : decode cL_isSound 263 = .ok (.ifCond .lt 15, 3) := by decide +kernel
theorem dL_isSound_266 : decode cL_isSound 266 = .ok (.aload_n 0, 1) := by decide +kernel
theorem dL_isSound_267 : decode cL_isSound 267 = .ok (.iload 9, 2) := by decide +kernel
theorem dL_isSound_269 : decode cL_isSound 269 = .ok (.iconst 2, 1) := by decide +kernel
theorem dL_isSound_270 : decode cL_isSound 270 = .ok (.invokevirtual 53, 3) := by decide +kernel
theorem dL_isSound_273 : decode cL_isSound 273 = .ok (.bipush 100, 2) := by decide +kernel
theorem dL_isSound_275 : decode cL_isSound 275 = .ok (.if_icmp .le 5, 3) := by decide +kernel
theorem dL_isSound_278 : decode cL_isSound 278 = .ok (.iconst 0, 1) := by decide +kernel
theorem dL_isSound_279 : decode cL_isSound 279 = .ok (.ireturn, 1) := by decide +kernel
theorem dL_isSound_280 : decode cL_isSound 280 = .ok (.iinc 9 1, 3) := by decide +kernel
theorem dL_isSound_283 : decode cL_isSound 283 = .ok (.goto (-107), 3) := by decide +kernel
theorem dL_isSound_286 : decode cL_isSound 286 = .ok (.iload 4, 2) := by decide +kernel
theorem dL_isSound_288 : decode cL_isSound 288 = .ok (.iload_n 1, 1) := by decide +kernel
theorem dL_isSound_289 : decode cL_isSound 289 = .ok (.if_icmp .gt 62, 3) := by decide +kernel
theorem dL_isSound_292 : decode cL_isSound 292 = .ok (.aload_n 0, 1) := by decide +kernel
theorem dL_isSound_293 : decode cL_isSound 293 = .ok (.bipush 7, 2) := by decide +kernel
theorem dL_isSound_295 : decode cL_isSound 295 = .ok (.invokevirtual 38, 3) := by decide +kernel
theorem dL_isSound_298 : decode cL_isSound 298 = .ok (.ifCond .ne 7, 3) := by decide +kernel
theorem dL_isSound_301 : decode cL_isSound 301 = .ok (.iconst 1, 1) := by decide +kernel
theorem dL_isSound_302 : decode cL_isSound 302 = .ok (.goto 4, 3) := by decide +kernel
theorem dL_isSound_305 : decode cL_isSound 305 = .ok (.iconst 0, 1) := by decide +kernel
theorem dL_isSound_306 : decode cL_isSound 306 = .ok (.iload 4, 2) := by decide +kernel
theorem dL_isSound_308 : decode cL_isSound 308 = .ok (.iload_n 1, 1) := by decide +kernel
theorem dL_isSound_309 : decode cL_isSound 309 = .ok (.if_icmp .ne 7, 3) := by decide +kernel
theorem dL_isSound_312 : decode cL_isSound 312 = .ok (.iconst 1, 1) := by decide +kernel
theorem dL_isSound_313 : decode cL_isSound 313 = .ok (.goto 4, 3) := by decide +kernel
theorem dL_isSound_316 : decode cL_isSound 316 = .ok (.iconst 0, 1) := by decide +kernel
theorem dL_isSound_317 : decode cL_isSound 317 = .ok (.if_icmp .ne 34, 3) := by decide +kernel
theorem dL_isSound_320 : decode cL_isSound 320 = .ok (.aload_n 0, 1) := by decide +kernel
theorem dL_isSound_321 : decode cL_isSound 321 = .ok (.bipush 15, 2) := by decide +kernel
theorem dL_isSound_323 : decode cL_isSound 323 = .ok (.invokevirtual 38, 3) := by decide +kernel
theorem dL_isSound_326 : decode cL_isSound 326 = .ok (.ifCond .ge 7, 3) := by decide +kernel
theorem dL_isSound_329 : decode cL_isSound 329 = .ok (.iconst 1, 1) := by decide +kernel
theorem dL_isSound_330 : decode cL_isSound 330 = .ok (.goto 4, 3) := by decide +kernel
theorem dL_isSound_333 : decode cL_isSound 333 = .ok (.iconst 0, 1) := by decide +kernel
theorem dL_isSound_334 : decode cL_isSound 334 = .ok (.aload_n 0, 1) := by decide +kernel
theorem dL_isSound_335 : decode cL_isSound 335 = .ok (.bipush 7, 2) := by decide +kernel
theorem dL_isSound_337 : decode cL_isSound 337 = .ok (.invokevirtual 38, 3) := by decide +kernel
theorem dL_isSound_340 : decode cL_isSound 340 = .ok (.ifCond .ne 7, 3) := by decide +kernel
theorem dL_isSound_343 : decode cL_isSound 343 = .ok (.iconst 1, 1) := by decide +kernel
theorem dL_isSound_344 : decode cL_isSound 344 = .ok (.goto 4, 3) := by decide +kernel
theorem dL_isSound_347 : decode cL_isSound 347 = .ok (.iconst 0, 1) := by decide +kernel
theorem dL_isSound_348 : decode cL_isSound 348 = .ok (.if_icmp .eq 5, 3) := by decide +kernel
theorem dL_isSound_351 : decode cL_isSound 351 = .ok (.iconst 0, 1) := by decide +kernel
theorem dL_isSound_352 : decode cL_isSound 352 = .ok (.ireturn, 1) := by decide +kernel
theorem dL_isSound_353 : decode cL_isSound 353 = .ok (.iload 5, 2) := by decide +kernel
theorem dL_isSound_355 : decode cL_isSound 355 = .ok (.bipush 60, 2) := by decide +kernel
theorem dL_isSound_357 : decode cL_isSound 357 = .ok (.if_icmp .ne 39, 3) := by decide +kernel
theorem dL_isSound_360 : decode cL_isSound 360 = .ok (.iload 6, 2) := by decide +kernel
theorem dL_isSound_362 : decode cL_isSound 362 = .ok (.sipush 6300, 3) := by decide +kernel
theorem dL_isSound_365 : decode cL_isSound 365 = .ok (.iload_n 3, 1) := by decide +kernel
theorem dL_isSound_366 : decode cL_isSound 366 = .ok (.isub, 1) := by decide +kernel
theorem dL_isSound_367 : decode cL_isSound 367 = .ok (.if_icmp .ne 29, 3) := by decide +kernel
theorem dL_isSound_370 : decode cL_isSound 370 = .ok (.iload 8, 2) := by decide +kernel
theorem dL_isSound_372 : decode cL_isSound 372 = .ok (.aload_n 0, 1) := by decide +kernel
theorem dL_isSound_373 : decode cL_isSound 373 = .ok (.bipush 11, 2) := by decide +kernel
theorem dL_isSound_375 : decode cL_isSound 375 = .ok (.invokevirtual 38, 3) := by decide +kernel
theorem dL_isSound_378 : decode cL_isSound 378 = .ok (.if_icmp .ne 18, 3) := by decide +kernel
theorem dL_isSound_381 : decode cL_isSound 381 = .ok (.iload 7, 2) := by decide +kernel
theorem dL_isSound_383 : decode cL_isSound 383 = .ok (.aload_n 0, 1) := by decide +kernel
theorem dL_isSound_384 : decode cL_isSound 384 = .ok (.bipush 6, 2) := by decide +kernel
theorem dL_isSound_386 : decode cL_isSound 386 = .ok (.invokevirtual 38, 3) := by decide +kernel
theorem dL_isSound_389 : decode cL_isSound 389 = .ok (.if_icmp .ne 7, 3) := by decide +kernel
theorem dL_isSound_392 : decode cL_isSound 392 = .ok (.iconst 1, 1) := by decide +kernel
theorem dL_isSound_393 : decode cL_isSound 393 = .ok (.goto 4, 3) := by decide +kernel
theorem dL_isSound_396 : decode cL_isSound 396 = .ok (.iconst 0, 1) := by decide +kernel
theorem dL_isSound_397 : decode cL_isSound 397 = .ok (.ireturn, 1) := by decide +kernel
