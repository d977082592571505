theorem inJ3 : ∀ w ∈ wsJ30, w ∈ lw_tbl := by decide +kernel
theorem dX0_init_0 : decode cX0_init 0 = .ok (.aload_n 0, 1) := by decide +kernel
theorem dX0_init_1 : decode cX0_init 1 = .ok (.invokespecial 3, 3) := by decide +kernel
theorem dX0_init_4 : decode cX0_init 4 = .ok (.aload_n 0, 1) := by decide +kernel
theorem dX0_init_5 : decode cX0_init 5 = .ok (.new 9, 3) := by decide +kernel
theorem dX0_init_8 : decode cX0_init 8 = .ok (.dup, 1) := by decide +kernel
theorem dX0_init_9 : decode cX0_init 9 = .ok (.iconst 0, 1) := by decide +kernel
theorem dX0_init_10 : decode cX0_init 10 = .ok (.invokespecial 11, 3) := by decide +kernel
theorem dX0_init_13 : decode cX0_init 13 = .ok (.putfield 14, 3) := by decide +kernel
theorem dX0_init_16 : decode cX0_init 16 = .ok (.aload_n 0, 1) := by decide +kernel
theorem dX0_init_17 : decode cX0_init 17 = .ok (.sipush 2000, 3) := by decide +kernel
theorem dX0_init_20 : decode cX0_init 20 = .ok (.putfield 20, 3) := by decide +kernel
theorem dX0_init_23 : decode cX0_init 23 = .ok (.aload_n 0, 1) := by decide +kernel
theorem dX0_init_24 : decode cX0_init 24 = .ok (.iconst (-1), 1) := by decide +kernel
theorem dX0_init_25 : decode cX0_init 25 = .ok (.putfield 24, 3) := by decide +kernel
theorem dX0_init_28 : decode cX0_init 28 = .ok (.aload_n 0, 1) := by decide +kernel
theorem dX0_init_29 : decode cX0_init 29 = .ok (.iload_n 1, 1) := by decide +kernel
theorem dX0_init_30 : decode cX0_init 30 = .ok (.putfield 27, 3) := by decide +kernel
theorem dX0_init_33 : decode cX0_init 33 = .ok (.aload_n 0, 1) := by decide +kernel
theorem dX0_init_34 : decode cX0_init 34 = .ok (.iload_n 2, 1) := by decide +kernel
theorem dX0_init_35 : decode cX0_init 35 = .ok (.putfield 30, 3) := by decide +kernel
theorem dX0_init_38 : decode cX0_init 38 = .ok (.return_, 1) := by decide +kernel
theorem dX0_numberOf_0 : decode cX0_numberOf 0 = .ok (.iload_n 1, 1) := by decide +kernel
theorem dX0_numberOf_1 : decode cX0_numberOf 1 = .ok (.tableswitch 81 0 8 #[51, 56, 61, 66, 81, 81, 81, 71, 76], 51) := by decide +kernel
theorem dX0_numberOf_52 : decode cX0_numberOf 52 = .ok (.aload_n 0, 1) := by decide +kernel
theorem dX0_numberOf_53 : decode cX0_numberOf 53 = .ok (.getfield 20, 3) := by decide +kernel
theorem dX0_numberOf_56 : decode cX0_numberOf 56 = .ok (.ireturn, 1) := by decide +kernel
theorem dX0_numberOf_57 : decode cX0_numberOf 57 = .ok (.aload_n 0, 1) := by decide +kernel
theorem dX0_numberOf_58 : decode cX0_numberOf 58 = .ok (.getfield 30, 3) := by decide +kernel
theorem dX0_numberOf_61 : decode cX0_numberOf 61 = .ok (.ireturn, 1) := by decide +kernel
theorem dX0_numberOf_62 : decode cX0_numberOf 62 = .ok (.aload_n 0, 1) := by decide +kernel
theorem dX0_numberOf_63 : decode cX0_numberOf 63 = .ok (.getfield 33, 3) := by decide +kernel
theorem dX0_numberOf_66 : decode cX0_numberOf 66 = .ok (.ireturn, 1) := by decide +kernel
theorem dX0_numberOf_67 : decode cX0_numberOf 67 = .ok (.aload_n 0, 1) := by decide +kernel
theorem dX0_numberOf_68 : decode cX0_numberOf 68 = .ok (.getfield 24, 3) := by decide +kernel
theorem dX0_numberOf_71 : decode cX0_numberOf 71 = .ok (.ireturn, 1) := by decide +kernel
theorem dX0_numberOf_72 : decode cX0_numberOf 72 = .ok (.aload_n 0, 1) := by decide +kernel
theorem dX0_numberOf_73 : decode cX0_numberOf 73 = .ok (.getfield 36, 3) := by decide +kernel
theorem dX0_numberOf_76 : decode cX0_numberOf 76 = .ok (.ireturn, 1) := by decide +kernel
theorem dX0_numberOf_77 : decode cX0_numberOf 77 = .ok (.aload_n 0, 1) := by decide +kernel
theorem dX0_numberOf_78 : decode cX0_numberOf 78 = .ok (.getfield 39, 3) := by decide +kernel
theorem dX0_numberOf_81 : decode cX0_numberOf 81 = .ok (.ireturn, 1) := by decide +kernel
theorem dX0_numberOf_82 : decode cX0_numberOf 82 = .ok (.aload_n 0, 1) := by decide +kernel
theorem dX0_numberOf_83 : decode cX0_numberOf 83 = .ok (.getfield 14, 3) := by decide +kernel
theorem dX0_numberOf_86 : decode cX0_numberOf 86 = .ok (.iload_n 1, 1) := by decide +kernel
theorem dX0_numberOf_87 : decode cX0_numberOf 87 = .ok (.iconst 4, 1) := by decide +kernel
theorem dX0_numberOf_88 : decode cX0_numberOf 88 = .ok (.isub, 1) := by decide +kernel
theorem dX0_numberOf_89 : decode cX0_numberOf 89 = .ok (.invokevirtual 42, 3) := by decide +kernel
theorem dX0_numberOf_92 : decode cX0_numberOf 92 = .ok (.ireturn, 1) := by decide +kernel
theorem dX1_init_0 : decode cX1_init 0 = .ok (.aload_n 0, 1) := by decide +kernel
theorem dX1_init_1 : decode cX1_init 1 = .ok (.invokespecial 1, 3) := by decide +kernel
theorem dX1_init_4 : decode cX1_init 4 = .ok (.aload_n 0, 1) := by decide +kernel
theorem dX1_init_5 : decode cX1_init 5 = .ok (.iconst 3, 1) := by decide +kernel
theorem dX1_init_6 : decode cX1_init 6 = .ok (.newarray .int, 2) := by decide +kernel
theorem dX1_init_8 : decode cX1_init 8 = .ok (.dup, 1) := by decide +kernel
theorem dX1_init_9 : decode cX1_init 9 = .ok (.iconst 0, 1) := by decide +kernel
theorem dX1_init_10 : decode cX1_init 10 = .ok (.iload_n 1, 1) := by decide +kernel
theorem dX1_init_11 : decode cX1_init 11 = .ok (.iastore, 1) := by decide +kernel
theorem dX1_init_12 : decode cX1_init 12 = .ok (.dup, 1) := by decide +kernel
theorem dX1_init_13 : decode cX1_init 13 = .ok (.iconst 1, 1) := by decide +kernel
theorem dX1_init_14 : decode cX1_init 14 = .ok (.iload_n 1, 1) := by decide +kernel
theorem dX1_init_15 : decode cX1_init 15 = .ok (.iastore, 1) := by decide +kernel
theorem dX1_init_16 : decode cX1_init 16 = .ok (.dup, 1) := by decide +kernel
theorem dX1_init_17 : decode cX1_init 17 = .ok (.iconst 2, 1) := by decide +kernel
theorem dX1_init_18 : decode cX1_init 18 = .ok (.iload_n 1, 1) := by decide +kernel
theorem dX1_init_19 : decode cX1_init 19 = .ok (.iastore, 1) := by decide +kernel
theorem dX1_init_20 : decode cX1_init 20 = .ok (.putfield 7, 3) := by decide +kernel
theorem dX1_init_23 : decode cX1_init 23 = .ok (.return_, 1) := by decide +kernel
theorem dX1_of_0 : decode cX1_of 0 = .ok (.iload_n 1, 1) := by decide +kernel
theorem dX1_of_1 : decode cX1_of 1 = .ok (.ifCond .lt 21, 3) := by decide +kernel
theorem dX1_of_4 : decode cX1_of 4 = .ok (.iload_n 1, 1) := by decide +kernel
theorem dX1_of_5 : decode cX1_of 5 = .ok (.aload_n 0, 1) := by decide +kernel
theorem dX1_of_6 : decode cX1_of 6 = .ok (.getfield 7, 3) := by decide +kernel
theorem dX1_of_9 : decode cX1_of 9 = .ok (.arraylength, 1) := by decide +kernel
theorem dX1_of_10 : decode cX1_of 10 = .ok (.if_icmp .ge 12, 3) := by decide +kernel
theorem dX1_of_13 : decode cX1_of 13 = .ok (.aload_n 0, 1) := by decide +kernel
theorem dX1_of_14 : decode cX1_of 14 = .ok (.getfield 7, 3) := by decide +kernel
theorem dX1_of_17 : decode cX1_of 17 = .ok (.iload_n 1, 1) := by decide +kernel
theorem dX1_of_18 : decode cX1_of 18 = .ok (.iaload, 1) := by decide +kernel
theorem dX1_of_19 : decode cX1_of 19 = .ok (.goto 4, 3) := by decide +kernel
theorem dX1_of_22 : decode cX1_of 22 = .ok (.iconst 0, 1) := by decide +kernel
theorem dX1_of_23 : decode cX1_of 23 = .ok (.ireturn, 1) := by decide +kernel
theorem dX1_put_0 : decode cX1_put 0 = .ok (.iload_n 1, 1) := by decide +kernel
theorem dX1_put_1 : decode cX1_put 1 = .ok (.ifCond .lt 19, 3) := by decide +kernel
theorem dX1_put_4 : decode cX1_put 4 = .ok (.iload_n 1, 1) := by decide +kernel
theorem dX1_put_5 : decode cX1_put 5 = .ok (.aload_n 0, 1) := by decide +kernel
theorem dX1_put_6 : decode cX1_put 6 = .ok (.getfield 7, 3) := by decide +kernel
theorem dX1_put_9 : decode cX1_put 9 = .ok (.arraylength, 1) := by decide +kernel
theorem dX1_put_10 : decode cX1_put 10 = .ok (.if_icmp .ge 10, 3) := by decide +kernel
theorem dX1_put_13 : decode cX1_put 13 = .ok (.aload_n 0, 1) := by decide +kernel
theorem dX1_put_14 : decode cX1_put 14 = .ok (.getfield 7, 3) := by decide +kernel
theorem dX1_put_17 : decode cX1_put 17 = .ok (.iload_n 1, 1) := by decide +kernel
theorem dX1_put_18 : decode cX1_put 18 = .ok (.iload_n 2, 1) := by decide +kernel
theorem dX1_put_19 : decode cX1_put 19 = .ok (.iastore, 1) := by decide +kernel
theorem dX1_put_20 : decode cX1_put 20 = .ok (.return_, 1) := by decide +kernel
theorem dX1_putAll_0 : decode cX1_putAll 0 = .ok (.iconst 0, 1) := by decide +kernel
theorem dX1_putAll_1 : decode cX1_putAll 1 = .ok (.istore_n 2, 1) := by decide +kernel
theorem dX1_putAll_2 : decode cX1_putAll 2 = .ok (.iload_n 2, 1) := by decide +kernel
theorem dX1_putAll_3 : decode cX1_putAll 3 = .ok (.aload_n 0, 1) := by decide +kernel
theorem dX1_putAll_4 : decode cX1_putAll 4 = .ok (.getfield 7, 3) := by decide +kernel
theorem dX1_putAll_7 : decode cX1_putAll 7 = .ok (.arraylength, 1) := by decide +kernel
theorem dX1_putAll_8 : decode cX1_putAll 8 = .ok (.if_icmp .ge 16, 3) := by decide +kernel
theorem dX1_putAll_11 : decode cX1_putAll 11 = .ok (.aload_n 0, 1) := by decide +kernel
theorem dX1_putAll_12 : decode cX1_putAll 12 = .ok (.getfield 7, 3) := by decide +kernel
theorem dX1_putAll_15 : decode cX1_putAll 15 = .ok (.iload_n 2, 1) := by decide +kernel
theorem dX1_putAll_16 : decode cX1_putAll 16 = .ok (.iload_n 1, 1) := by decide +kernel
theorem dX1_putAll_17 : decode cX1_putAll 17 = .ok (.iastore, 1) := by decide +kernel
theorem dX1_putAll_18 : decode cX1_putAll 18 = .ok (.iinc 2 1, 3) := by decide +kernel
theorem dX1_putAll_21 : decode cX1_putAll 21 = .ok (.goto (-19), 3) := by decide +kernel
theorem dX1_putAll_24 : decode cX1_putAll 24 = .ok (.return_, 1) := by decide +kernel
theorem dX1_total_0 : decode cX1_total 0 = .ok (.iconst 0, 1) := by decide +kernel
theorem dX1_total_1 : decode cX1_total 1 = .ok (.istore_n 1, 1) := by decide +kernel
theorem dX1_total_2 : decode cX1_total 2 = .ok (.iconst 0, 1) := by decide +kernel
theorem dX1_total_3 : decode cX1_total 3 = .ok (.istore_n 2, 1) := by decide +kernel
theorem dX1_total_4 : decode cX1_total 4 = .ok (.iload_n 2, 1) := by decide +kernel
theorem dX1_total_5 : decode cX1_total 5 = .ok (.aload_n 0, 1) := by decide +kernel
theorem dX1_total_6 : decode cX1_total 6 = .ok (.getfield 7, 3) := by decide +kernel
theorem dX1_total_9 : decode cX1_total 9 = .ok (.arraylength, 1) := by decide +kernel
theorem dX1_total_10 : decode cX1_total 10 = .ok (.if_icmp .ge 18, 3) := by decide +kernel
theorem dX1_total_13 : decode cX1_total 13 = .ok (.iload_n 1, 1) := by decide +kernel
theorem dX1_total_14 : decode cX1_total 14 = .ok (.aload_n 0, 1) := by decide +kernel
theorem dX1_total_15 : decode cX1_total 15 = .ok (.getfield 7, 3) := by decide +kernel
theorem dX1_total_18 : decode cX1_total 18 = .ok (.iload_n 2, 1) := by decide +kernel
theorem dX1_total_19 : decode cX1_total 19 = .ok (.iaload, 1) := by decide +kernel
theorem dX1_total_20 : decode cX1_total 20 = .ok (.iadd, 1) := by decide +kernel
theorem dX1_total_21 : decode cX1_total 21 = .ok (.istore_n 1, 1) := by decide +kernel
theorem dX1_total_22 : decode cX1_total 22 = .ok (.iinc 2 1, 3) := by decide +kernel
theorem dX1_total_25 : decode cX1_total 25 = .ok (.goto (-21), 3) := by decide +kernel
theorem dX1_total_28 : decode cX1_total 28 = .ok (.iload_n 1, 1) := by decide +kernel
theorem dX1_total_29 : decode cX1_total 29 = .ok (.ireturn, 1) := by decide +kernel
theorem dX2_init_0 : decode cX2_init 0 = .ok (.aload_n 0, 1) := by decide +kernel
theorem dX2_init_1 : decode cX2_init 1 = .ok (.invokespecial 3, 3) := by decide +kernel
theorem dX2_init_4 : decode cX2_init 4 = .ok (.return_, 1) := by decide +kernel
theorem dX2_begin_0 : decode cX2_begin 0 = .ok (.aload_n 0, 1) := by decide +kernel
theorem dX2_begin_1 : decode cX2_begin 1 = .ok (.aload_n 1, 1) := by decide +kernel
theorem dX2_begin_2 : decode cX2_begin 2 = .ok (.getfield 9, 3) := by decide +kernel
theorem dX2_begin_5 : decode cX2_begin 5 = .ok (.putfield 15, 3) := by decide +kernel
theorem dX2_begin_8 : decode cX2_begin 8 = .ok (.aload_n 0, 1) := by decide +kernel
theorem dX2_begin_9 : decode cX2_begin 9 = .ok (.aload_n 1, 1) := by decide +kernel
theorem dX2_begin_10 : decode cX2_begin 10 = .ok (.getfield 18, 3) := by decide +kernel
theorem dX2_begin_13 : decode cX2_begin 13 = .ok (.putfield 21, 3) := by decide +kernel
theorem dX2_begin_16 : decode cX2_begin 16 = .ok (.aload_n 0, 1) := by decide +kernel
theorem dX2_begin_17 : decode cX2_begin 17 = .ok (.iload_n 2, 1) := by decide +kernel
theorem dX2_begin_18 : decode cX2_begin 18 = .ok (.aload_n 1, 1) := by decide +kernel
theorem dX2_begin_19 : decode cX2_begin 19 = .ok (.getfield 22, 3) := by decide +kernel
theorem dX2_begin_22 : decode cX2_begin 22 = .ok (.invokestatic 25, 3) := by decide +kernel
theorem dX2_begin_25 : decode cX2_begin 25 = .ok (.putfield 31, 3) := by decide +kernel
theorem dX2_begin_28 : decode cX2_begin 28 = .ok (.aload_n 0, 1) := by decide +kernel
theorem dX2_begin_29 : decode cX2_begin 29 = .ok (.aload_n 1, 1) := by decide +kernel
theorem dX2_begin_30 : decode cX2_begin 30 = .ok (.getfield 34, 3) := by decide +kernel
theorem dX2_begin_33 : decode cX2_begin 33 = .ok (.getfield 38, 3) := by decide +kernel
theorem dX2_begin_36 : decode cX2_begin 36 = .ok (.putfield 43, 3) := by decide +kernel
theorem dX2_begin_39 : decode cX2_begin 39 = .ok (.aload_n 0, 1) := by decide +kernel
theorem dX2_begin_40 : decode cX2_begin 40 = .ok (.iload_n 3, 1) := by decide +kernel
theorem dX2_begin_41 : decode cX2_begin 41 = .ok (.putfield 44, 3) := by decide +kernel
theorem dX2_begin_44 : decode cX2_begin 44 = .ok (.aload_n 0, 1) := by decide +kernel
theorem dX2_begin_45 : decode cX2_begin 45 = .ok (.bipush 99, 2) := by decide +kernel
theorem dX2_begin_47 : decode cX2_begin 47 = .ok (.putfield 47, 3) := by decide +kernel
theorem dX2_begin_50 : decode cX2_begin 50 = .ok (.aload_n 0, 1) := by decide +kernel
theorem dX2_begin_51 : decode cX2_begin 51 = .ok (.aload_n 1, 1) := by decide +kernel
theorem dX2_begin_52 : decode cX2_begin 52 = .ok (.getfield 50, 3) := by decide +kernel
theorem dX2_begin_55 : decode cX2_begin 55 = .ok (.putfield 53, 3) := by decide +kernel
theorem dX2_begin_58 : decode cX2_begin 58 = .ok (.aload_n 0, 1) := by decide +kernel
theorem dX2_begin_59 : decode cX2_begin 59 = .ok (.aload_n 1, 1) := by decide +kernel
theorem dX2_begin_60 : decode cX2_begin 60 = .ok (.getfield 56, 3) := by decide +kernel
theorem dX2_begin_63 : decode cX2_begin 63 = .ok (.putfield 59, 3) := by decide +kernel
theorem dX2_begin_66 : decode cX2_begin 66 = .ok (.iconst 0, 1) := by decide +kernel
theorem dX2_begin_67 : decode cX2_begin 67 = .ok (.istore 6, 2) := by decide +kernel
theorem dX2_begin_69 : decode cX2_begin 69 = .ok (.iload 6, 2) := by decide +kernel
theorem dX2_begin_71 : decode cX2_begin 71 = .ok (.aload 4, 2) := by decide +kernel
theorem dX2_begin_73 : decode cX2_begin 73 = .ok (.invokevirtual 62, 3) := by decide +kernel
theorem dX2_begin_76 : decode cX2_begin 76 = .ok (.if_icmp .ge 57, 3) := by decide +kernel
theorem dX2_begin_79 : decode cX2_begin 79 = .ok (.aload 4, 2) := by decide +kernel
theorem dX2_begin_81 : decode cX2_begin 81 = .ok (.iload 6, 2) := by decide +kernel
theorem dX2_begin_83 : decode cX2_begin 83 = .ok (.invokevirtual 68, 3) := by decide +kernel
theorem dX2_begin_86 : decode cX2_begin 86 = .ok (.checkcast 72, 3) := by decide +kernel
theorem dX2_begin_89 : decode cX2_begin 89 = .ok (.astore 7, 2) := by decide +kernel
theorem dX2_begin_91 : decode cX2_begin 91 = .ok (.aload 7, 2) := by decide +kernel
theorem dX2_begin_93 : decode cX2_begin 93 = .ok (.aload 7, 2) := by decide +kernel
theorem dX2_begin_95 : decode cX2_begin 95 = .ok (.getfield 74, 3) := by decide +kernel
theorem dX2_begin_98 : decode cX2_begin 98 = .ok (.putfield 77, 3) := by decide +kernel
theorem dX2_begin_101 : decode cX2_begin 101 = .ok (.aload 7, 2) := by decide +kernel
theorem dX2_begin_103 : decode cX2_begin 103 = .ok (.iconst 0, 1) := by decide +kernel
theorem dX2_begin_104 : decode cX2_begin 104 = .ok (.aload 7, 2) := by decide +kernel
theorem dX2_begin_106 : decode cX2_begin 106 = .ok (.getfield 80, 3) := by decide +kernel
theorem dX2_begin_109 : decode cX2_begin 109 = .ok (.aload 7, 2) := by decide +kernel
theorem dX2_begin_111 : decode cX2_begin 111 = .ok (.getfield 83, 3) := by decide +kernel
theorem dX2_begin_114 : decode cX2_begin 114 = .ok (.isub, 1) := by decide +kernel
theorem dX2_begin_115 : decode cX2_begin 115 = .ok (.invokestatic 86, 3) := by decide +kernel
theorem dX2_begin_118 : decode cX2_begin 118 = .ok (.putfield 89, 3) := by decide +kernel
theorem dX2_begin_121 : decode cX2_begin 121 = .ok (.aload 7, 2) := by decide +kernel
theorem dX2_begin_123 : decode cX2_begin 123 = .ok (.iconst 0, 1) := by decide +kernel
theorem dX2_begin_124 : decode cX2_begin 124 = .ok (.putfield 92, 3) := by decide +kernel
theorem dX2_begin_127 : decode cX2_begin 127 = .ok (.iinc 6 1, 3) := by decide +kernel
theorem dX2_begin_130 : decode cX2_begin 130 = .ok (.goto (-61), 3) := by decide +kernel
theorem dX2_begin_133 : decode cX2_begin 133 = .ok (.iconst 0, 1) := by decide +kernel
theorem dX2_begin_134 : decode cX2_begin 134 = .ok (.istore 6, 2) := by decide +kernel
theorem dX2_begin_136 : decode cX2_begin 136 = .ok (.iload 6, 2) := by decide +kernel
theorem dX2_begin_138 : decode cX2_begin 138 = .ok (.aload 5, 2) := by decide +kernel
theorem dX2_begin_140 : decode cX2_begin 140 = .ok (.invokevirtual 62, 3) := by decide +kernel
theorem dX2_begin_143 : decode cX2_begin 143 = .ok (.if_icmp .ge 31, 3) := by decide +kernel
theorem dX2_begin_146 : decode cX2_begin 146 = .ok (.aload 5, 2) := by decide +kernel
theorem dX2_begin_148 : decode cX2_begin 148 = .ok (.iload 6, 2) := by decide +kernel
theorem dX2_begin_150 : decode cX2_begin 150 = .ok (.invokevirtual 68, 3) := by decide +kernel
theorem dX2_begin_153 : decode cX2_begin 153 = .ok (.checkcast 96, 3) := by decide +kernel
theorem dX2_begin_156 : decode cX2_begin 156 = .ok (.astore 7, 2) := by decide +kernel
theorem dX2_begin_158 : decode cX2_begin 158 = .ok (.aload 7, 2) := by decide +kernel
theorem dX2_begin_160 : decode cX2_begin 160 = .ok (.aload 7, 2) := by decide +kernel
theorem dX2_begin_162 : decode cX2_begin 162 = .ok (.getfield 98, 3) := by decide +kernel
theorem dX2_begin_165 : decode cX2_begin 165 = .ok (.putfield 101, 3) := by decide +kernel
theorem dX2_begin_168 : decode cX2_begin 168 = .ok (.iinc 6 1, 3) := by decide +kernel
theorem dX2_begin_171 : decode cX2_begin 171 = .ok (.goto (-35), 3) := by decide +kernel
theorem dX2_begin_174 : decode cX2_begin 174 = .ok (.return_, 1) := by decide +kernel
theorem dX2_nextTaker_0 : decode cX2_nextTaker 0 = .ok (.iconst 0, 1) := by decide +kernel
theorem dX2_nextTaker_1 : decode cX2_nextTaker 1 = .ok (.istore_n 2, 1) := by decide +kernel
theorem dX2_nextTaker_2 : decode cX2_nextTaker 2 = .ok (.iload_n 2, 1) := by decide +kernel
theorem dX2_nextTaker_3 : decode cX2_nextTaker 3 = .ok (.iconst 4, 1) := by decide +kernel
theorem dX2_nextTaker_4 : decode cX2_nextTaker 4 = .ok (.if_icmp .gt 112, 3) := by decide +kernel
theorem dX2_nextTaker_7 : decode cX2_nextTaker 7 = .ok (.aload_n 0, 1) := by decide +kernel
theorem dX2_nextTaker_8 : decode cX2_nextTaker 8 = .ok (.aload_n 1, 1) := by decide +kernel
theorem dX2_nextTaker_9 : decode cX2_nextTaker 9 = .ok (.invokevirtual 104, 3) := by decide +kernel
theorem dX2_nextTaker_12 : decode cX2_nextTaker 12 = .ok (.astore_n 3, 1) := by decide +kernel
theorem dX2_nextTaker_13 : decode cX2_nextTaker 13 = .ok (.aload_n 3, 1) := by decide +kernel
theorem dX2_nextTaker_14 : decode cX2_nextTaker 14 = .ok (.ifnull 11, 3) := by decide +kernel
theorem dX2_nextTaker_17 : decode cX2_nextTaker 17 = .ok (.aload_n 0, 1) := by decide +kernel
theorem dX2_nextTaker_18 : decode cX2_nextTaker 18 = .ok (.getfield 53, 3) := by decide +kernel
theorem dX2_nextTaker_21 : decode cX2_nextTaker 21 = .ok (.iconst 1, 1) := by decide +kernel
theorem dX2_nextTaker_22 : decode cX2_nextTaker 22 = .ok (.if_icmp .ge 5, 3) := by decide +kernel
theorem dX2_nextTaker_25 : decode cX2_nextTaker 25 = .ok (.aconst_null, 1) := by decide +kernel
theorem dX2_nextTaker_26 : decode cX2_nextTaker 26 = .ok (.areturn, 1) := by decide +kernel
theorem dX2_nextTaker_27 : decode cX2_nextTaker 27 = .ok (.aload_n 0, 1) := by decide +kernel
theorem dX2_nextTaker_28 : decode cX2_nextTaker 28 = .ok (.getfield 47, 3) := by decide +kernel
theorem dX2_nextTaker_31 : decode cX2_nextTaker 31 = .ok (.aload_n 0, 1) := by decide +kernel
theorem dX2_nextTaker_32 : decode cX2_nextTaker 32 = .ok (.aload_n 3, 1) := by decide +kernel
theorem dX2_nextTaker_33 : decode cX2_nextTaker 33 = .ok (.invokevirtual 108, 3) := by decide +kernel
theorem dX2_nextTaker_36 : decode cX2_nextTaker 36 = .ok (.isub, 1) := by decide +kernel
theorem dX2_nextTaker_37 : decode cX2_nextTaker 37 = .ok (.istore 4, 2) := by decide +kernel
theorem dX2_nextTaker_39 : decode cX2_nextTaker 39 = .ok (.iload 4, 2) := by decide +kernel
theorem dX2_nextTaker_41 : decode cX2_nextTaker 41 = .ok (.aload_n 0, 1) := by decide +kernel
theorem dX2_nextTaker_42 : decode cX2_nextTaker 42 = .ok (.getfield 44, 3) := by decide +kernel
theorem dX2_nextTaker_45 : decode cX2_nextTaker 45 = .ok (.if_icmp .lt 9, 3) := by decide +kernel
theorem dX2_nextTaker_48 : decode cX2_nextTaker 48 = .ok (.iload 4, 2) := by decide +kernel
theorem dX2_nextTaker_50 : decode cX2_nextTaker 50 = .ok (.iconst 1, 1) := by decide +kernel
theorem dX2_nextTaker_51 : decode cX2_nextTaker 51 = .ok (.if_icmp .ge 5, 3) := by decide +kernel
theorem dX2_nextTaker_54 : decode cX2_nextTaker 54 = .ok (.aconst_null, 1) := by decide +kernel
theorem dX2_nextTaker_55 : decode cX2_nextTaker 55 = .ok (.areturn, 1) := by decide +kernel
theorem dX2_nextTaker_56 : decode cX2_nextTaker 56 = .ok (.aload_n 3, 1) := by decide +kernel
theorem dX2_nextTaker_57 : decode cX2_nextTaker 57 = .ok (.getfield 112, 3) := by decide +kernel
theorem dX2_nextTaker_60 : decode cX2_nextTaker 60 = .ok (.getfield 77, 3) := by decide +kernel
theorem dX2_nextTaker_63 : decode cX2_nextTaker 63 = .ok (.iload 4, 2) := by decide +kernel
theorem dX2_nextTaker_65 : decode cX2_nextTaker 65 = .ok (.idiv, 1) := by decide +kernel
theorem dX2_nextTaker_66 : decode cX2_nextTaker 66 = .ok (.istore 5, 2) := by decide +kernel
theorem dX2_nextTaker_68 : decode cX2_nextTaker 68 = .ok (.iload 5, 2) := by decide +kernel
theorem dX2_nextTaker_70 : decode cX2_nextTaker 70 = .ok (.aload_n 3, 1) := by decide +kernel
theorem dX2_nextTaker_71 : decode cX2_nextTaker 71 = .ok (.getfield 101, 3) := by decide +kernel
theorem dX2_nextTaker_74 : decode cX2_nextTaker 74 = .ok (.aload_n 0, 1) := by decide +kernel
theorem dX2_nextTaker_75 : decode cX2_nextTaker 75 = .ok (.getfield 53, 3) := by decide +kernel
theorem dX2_nextTaker_78 : decode cX2_nextTaker 78 = .ok (.invokestatic 25, 3) := by decide +kernel
theorem dX2_nextTaker_81 : decode cX2_nextTaker 81 = .ok (.invokestatic 25, 3) := by decide +kernel
theorem dX2_nextTaker_84 : decode cX2_nextTaker 84 = .ok (.istore 6, 2) := by decide +kernel
theorem dX2_nextTaker_86 : decode cX2_nextTaker 86 = .ok (.iload 6, 2) := by decide +kernel
theorem dX2_nextTaker_88 : decode cX2_nextTaker 88 = .ok (.ifCond .le 14, 3) := by decide +kernel
theorem dX2_nextTaker_91 : decode cX2_nextTaker 91 = .ok (.aload_n 0, 1) := by decide +kernel
theorem dX2_nextTaker_92 : decode cX2_nextTaker 92 = .ok (.aload_n 3, 1) := by decide +kernel
theorem dX2_nextTaker_93 : decode cX2_nextTaker 93 = .ok (.iload 6, 2) := by decide +kernel
theorem dX2_nextTaker_95 : decode cX2_nextTaker 95 = .ok (.iload 4, 2) := by decide +kernel
theorem dX2_nextTaker_97 : decode cX2_nextTaker 97 = .ok (.invokevirtual 116, 3) := by decide +kernel
theorem dX2_nextTaker_100 : decode cX2_nextTaker 100 = .ok (.aload_n 3, 1) := by decide +kernel
theorem dX2_nextTaker_101 : decode cX2_nextTaker 101 = .ok (.areturn, 1) := by decide +kernel
theorem dX2_nextTaker_102 : decode cX2_nextTaker 102 = .ok (.aload_n 3, 1) := by decide +kernel
theorem dX2_nextTaker_103 : decode cX2_nextTaker 103 = .ok (.getfield 112, 3) := by decide +kernel
theorem dX2_nextTaker_106 : decode cX2_nextTaker 106 = .ok (.iconst 1, 1) := by decide +kernel
theorem dX2_nextTaker_107 : decode cX2_nextTaker 107 = .ok (.putfield 92, 3) := by decide +kernel
theorem dX2_nextTaker_110 : decode cX2_nextTaker 110 = .ok (.iinc 2 1, 3) := by decide +kernel
theorem dX2_nextTaker_113 : decode cX2_nextTaker 113 = .ok (.goto (-111), 3) := by decide +kernel
theorem dX2_nextTaker_116 : decode cX2_nextTaker 116 = .ok (.aconst_null, 1) := by decide +kernel
theorem dX2_nextTaker_117 : decode cX2_nextTaker 117 = .ok (.areturn, 1) := by decide +kernel
theorem dX2_firstToPress_0 : decode cX2_firstToPress 0 = .ok (.aconst_null, 1) := by decide +kernel
theorem dX2_firstToPress_1 : decode cX2_firstToPress 1 = .ok (.astore_n 2, 1) := by decide +kernel
theorem dX2_firstToPress_2 : decode cX2_firstToPress 2 = .ok (.iconst 0, 1) := by decide +kernel
theorem dX2_firstToPress_3 : decode cX2_firstToPress 3 = .ok (.istore_n 3, 1) := by decide +kernel
theorem dX2_firstToPress_4 : decode cX2_firstToPress 4 = .ok (.iload_n 3, 1) := by decide +kernel
theorem dX2_firstToPress_5 : decode cX2_firstToPress 5 = .ok (.aload_n 1, 1) := by decide +kernel
theorem dX2_firstToPress_6 : decode cX2_firstToPress 6 = .ok (.invokevirtual 62, 3) := by decide +kernel
theorem dX2_firstToPress_9 : decode cX2_firstToPress 9 = .ok (.if_icmp .ge 45, 3) := by decide +kernel
theorem dX2_firstToPress_12 : decode cX2_firstToPress 12 = .ok (.aload_n 1, 1) := by decide +kernel
theorem dX2_firstToPress_13 : decode cX2_firstToPress 13 = .ok (.iload_n 3, 1) := by decide +kernel
theorem dX2_firstToPress_14 : decode cX2_firstToPress 14 = .ok (.invokevirtual 68, 3) := by decide +kernel
theorem dX2_firstToPress_17 : decode cX2_firstToPress 17 = .ok (.checkcast 96, 3) := by decide +kernel
theorem dX2_firstToPress_20 : decode cX2_firstToPress 20 = .ok (.astore 4, 2) := by decide +kernel
theorem dX2_firstToPress_22 : decode cX2_firstToPress 22 = .ok (.aload_n 0, 1) := by decide +kernel
theorem dX2_firstToPress_23 : decode cX2_firstToPress 23 = .ok (.aload 4, 2) := by decide +kernel
theorem dX2_firstToPress_25 : decode cX2_firstToPress 25 = .ok (.invokevirtual 120, 3) := by decide +kernel
theorem dX2_firstToPress_28 : decode cX2_firstToPress 28 = .ok (.ifCond .eq 20, 3) := by decide +kernel
theorem dX2_firstToPress_31 : decode cX2_firstToPress 31 = .ok (.aload_n 2, 1) := by decide +kernel
theorem dX2_firstToPress_32 : decode cX2_firstToPress 32 = .ok (.ifnull 13, 3) := by decide +kernel
theorem dX2_firstToPress_35 : decode cX2_firstToPress 35 = .ok (.aload_n 0, 1) := by decide +kernel
theorem dX2_firstToPress_36 : decode cX2_firstToPress 36 = .ok (.aload 4, 2) := by decide +kernel
theorem dX2_firstToPress_38 : decode cX2_firstToPress 38 = .ok (.aload_n 2, 1) := by decide +kernel
theorem dX2_firstToPress_39 : decode cX2_firstToPress 39 = .ok (.invokevirtual 124, 3) := by decide +kernel
theorem dX2_firstToPress_42 : decode cX2_firstToPress 42 = .ok (.ifCond .eq 6, 3) := by decide +kernel
theorem dX2_firstToPress_45 : decode cX2_firstToPress 45 = .ok (.aload 4, 2) := by decide +kernel
theorem dX2_firstToPress_47 : decode cX2_firstToPress 47 = .ok (.astore_n 2, 1) := by decide +kernel
theorem dX2_firstToPress_48 : decode cX2_firstToPress 48 = .ok (.iinc 3 1, 3) := by decide +kernel
theorem dX2_firstToPress_51 : decode cX2_firstToPress 51 = .ok (.goto (-47), 3) := by decide +kernel
theorem dX2_firstToPress_54 : decode cX2_firstToPress 54 = .ok (.aload_n 2, 1) := by decide +kernel
theorem dX2_firstToPress_55 : decode cX2_firstToPress 55 = .ok (.areturn, 1) := by decide +kernel
theorem dX2_fits_0 : decode cX2_fits 0 = .ok (.aload_n 1, 1) := by decide +kernel
theorem dX2_fits_1 : decode cX2_fits 1 = .ok (.getfield 101, 3) := by decide +kernel
theorem dX2_fits_4 : decode cX2_fits 4 = .ok (.ifCond .le 61, 3) := by decide +kernel
theorem dX2_fits_7 : decode cX2_fits 7 = .ok (.aload_n 1, 1) := by decide +kernel
theorem dX2_fits_8 : decode cX2_fits 8 = .ok (.getfield 112, 3) := by decide +kernel
theorem dX2_fits_11 : decode cX2_fits 11 = .ok (.getfield 92, 3) := by decide +kernel
theorem dX2_fits_14 : decode cX2_fits 14 = .ok (.ifCond .ne 51, 3) := by decide +kernel
theorem dX2_fits_17 : decode cX2_fits 17 = .ok (.aload_n 1, 1) := by decide +kernel
theorem dX2_fits_18 : decode cX2_fits 18 = .ok (.getfield 128, 3) := by decide +kernel
theorem dX2_fits_21 : decode cX2_fits 21 = .ok (.aload_n 0, 1) := by decide +kernel
theorem dX2_fits_22 : decode cX2_fits 22 = .ok (.getfield 15, 3) := by decide +kernel
theorem dX2_fits_25 : decode cX2_fits 25 = .ok (.if_icmp .ne 40, 3) := by decide +kernel
theorem dX2_fits_28 : decode cX2_fits 28 = .ok (.aload_n 1, 1) := by decide +kernel
theorem dX2_fits_29 : decode cX2_fits 29 = .ok (.getfield 129, 3) := by decide +kernel
theorem dX2_fits_32 : decode cX2_fits 32 = .ok (.aload_n 0, 1) := by decide +kernel
theorem dX2_fits_33 : decode cX2_fits 33 = .ok (.getfield 21, 3) := by decide +kernel
theorem dX2_fits_36 : decode cX2_fits 36 = .ok (.if_icmp .lt 29, 3) := by decide +kernel
theorem dX2_fits_39 : decode cX2_fits 39 = .ok (.aload_n 1, 1) := by decide +kernel
theorem dX2_fits_40 : decode cX2_fits 40 = .ok (.getfield 130, 3) := by decide +kernel
theorem dX2_fits_43 : decode cX2_fits 43 = .ok (.aload_n 0, 1) := by decide +kernel
theorem dX2_fits_44 : decode cX2_fits 44 = .ok (.getfield 31, 3) := by decide +kernel
theorem dX2_fits_47 : decode cX2_fits 47 = .ok (.if_icmp .gt 18, 3) := by decide +kernel
theorem dX2_fits_50 : decode cX2_fits 50 = .ok (.aload_n 1, 1) := by decide +kernel
theorem dX2_fits_51 : decode cX2_fits 51 = .ok (.getfield 131, 3) := by decide +kernel
theorem dX2_fits_54 : decode cX2_fits 54 = .ok (.aload_n 0, 1) := by decide +kernel
theorem dX2_fits_55 : decode cX2_fits 55 = .ok (.getfield 43, 3) := by decide +kernel
theorem dX2_fits_58 : decode cX2_fits 58 = .ok (.if_icmp .gt 7, 3) := by decide +kernel
theorem dX2_fits_61 : decode cX2_fits 61 = .ok (.iconst 1, 1) := by decide +kernel
theorem dX2_fits_62 : decode cX2_fits 62 = .ok (.goto 4, 3) := by decide +kernel
theorem dX2_fits_65 : decode cX2_fits 65 = .ok (.iconst 0, 1) := by decide +kernel
theorem dX2_fits_66 : decode cX2_fits 66 = .ok (.ireturn, 1) := by decide +kernel
theorem dX2_isAhead_0 : decode cX2_isAhead 0 = .ok (.aload_n 0, 1) := by decide +kernel
theorem dX2_isAhead_1 : decode cX2_isAhead 1 = .ok (.aload_n 1, 1) := by decide +kernel
theorem dX2_isAhead_2 : decode cX2_isAhead 2 = .ok (.invokevirtual 108, 3) := by decide +kernel
theorem dX2_isAhead_5 : decode cX2_isAhead 5 = .ok (.istore_n 3, 1) := by decide +kernel
theorem dX2_isAhead_6 : decode cX2_isAhead 6 = .ok (.aload_n 0, 1) := by decide +kernel
theorem dX2_isAhead_7 : decode cX2_isAhead 7 = .ok (.aload_n 2, 1) := by decide +kernel
theorem dX2_isAhead_8 : decode cX2_isAhead 8 = .ok (.invokevirtual 108, 3) := by decide +kernel
theorem dX2_isAhead_11 : decode cX2_isAhead 11 = .ok (.istore 4, 2) := by decide +kernel
theorem dX2_isAhead_13 : decode cX2_isAhead 13 = .ok (.iload_n 3, 1) := by decide +kernel
theorem dX2_isAhead_14 : decode cX2_isAhead 14 = .ok (.iload 4, 2) := by decide +kernel
theorem dX2_isAhead_16 : decode cX2_isAhead 16 = .ok (.if_icmp .lt 26, 3) := by decide +kernel
theorem dX2_isAhead_19 : decode cX2_isAhead 19 = .ok (.iload_n 3, 1) := by decide +kernel
theorem dX2_isAhead_20 : decode cX2_isAhead 20 = .ok (.iload 4, 2) := by decide +kernel
theorem dX2_isAhead_22 : decode cX2_isAhead 22 = .ok (.if_icmp .ne 24, 3) := by decide +kernel
theorem dX2_isAhead_25 : decode cX2_isAhead 25 = .ok (.aload_n 1, 1) := by decide +kernel
theorem dX2_isAhead_26 : decode cX2_isAhead 26 = .ok (.getfield 112, 3) := by decide +kernel
theorem dX2_isAhead_29 : decode cX2_isAhead 29 = .ok (.getfield 132, 3) := by decide +kernel
theorem dX2_isAhead_32 : decode cX2_isAhead 32 = .ok (.aload_n 2, 1) := by decide +kernel
theorem dX2_isAhead_33 : decode cX2_isAhead 33 = .ok (.getfield 112, 3) := by decide +kernel
theorem dX2_isAhead_36 : decode cX2_isAhead 36 = .ok (.getfield 132, 3) := by decide +kernel
theorem dX2_isAhead_39 : decode cX2_isAhead 39 = .ok (.if_icmp .ge 7, 3) := by decide +kernel
theorem dX2_isAhead_42 : decode cX2_isAhead 42 = .ok (.iconst 1, 1) := by decide +kernel
theorem dX2_isAhead_43 : decode cX2_isAhead 43 = .ok (.goto 4, 3) := by decide +kernel
theorem dX2_isAhead_46 : decode cX2_isAhead 46 = .ok (.iconst 0, 1) := by decide +kernel
theorem dX2_isAhead_47 : decode cX2_isAhead 47 = .ok (.ireturn, 1) := by decide +kernel
theorem dX2_stampOf_0 : decode cX2_stampOf 0 = .ok (.aload_n 0, 1) := by decide +kernel
theorem dX2_stampOf_1 : decode cX2_stampOf 1 = .ok (.getfield 47, 3) := by decide +kernel
theorem dX2_stampOf_4 : decode cX2_stampOf 4 = .ok (.aload_n 1, 1) := by decide +kernel
theorem dX2_stampOf_5 : decode cX2_stampOf 5 = .ok (.getfield 135, 3) := by decide +kernel
theorem dX2_stampOf_8 : decode cX2_stampOf 8 = .ok (.isub, 1) := by decide +kernel
theorem dX2_stampOf_9 : decode cX2_stampOf 9 = .ok (.aload_n 1, 1) := by decide +kernel
theorem dX2_stampOf_10 : decode cX2_stampOf 10 = .ok (.getfield 112, 3) := by decide +kernel
theorem dX2_stampOf_13 : decode cX2_stampOf 13 = .ok (.getfield 89, 3) := by decide +kernel
theorem dX2_stampOf_16 : decode cX2_stampOf 16 = .ok (.iadd, 1) := by decide +kernel
theorem dX2_stampOf_17 : decode cX2_stampOf 17 = .ok (.ireturn, 1) := by decide +kernel
theorem dX2_take_0 : decode cX2_take 0 = .ok (.iload_n 2, 1) := by decide +kernel
theorem dX2_take_1 : decode cX2_take 1 = .ok (.invokestatic 138, 3) := by decide +kernel
theorem dX2_take_4 : decode cX2_take 4 = .ok (.aload_n 0, 1) := by decide +kernel
theorem dX2_take_5 : decode cX2_take 5 = .ok (.getfield 59, 3) := by decide +kernel
theorem dX2_take_8 : decode cX2_take 8 = .ok (.invokestatic 25, 3) := by decide +kernel
theorem dX2_take_11 : decode cX2_take 11 = .ok (.istore 4, 2) := by decide +kernel
theorem dX2_take_13 : decode cX2_take 13 = .ok (.aload_n 0, 1) := by decide +kernel
theorem dX2_take_14 : decode cX2_take 14 = .ok (.iload_n 2, 1) := by decide +kernel
theorem dX2_take_15 : decode cX2_take 15 = .ok (.putfield 142, 3) := by decide +kernel
theorem dX2_take_18 : decode cX2_take 18 = .ok (.aload_n 0, 1) := by decide +kernel
theorem dX2_take_19 : decode cX2_take 19 = .ok (.iload_n 3, 1) := by decide +kernel
theorem dX2_take_20 : decode cX2_take 20 = .ok (.putfield 143, 3) := by decide +kernel
theorem dX2_take_23 : decode cX2_take 23 = .ok (.aload_n 1, 1) := by decide +kernel
theorem dX2_take_24 : decode cX2_take 24 = .ok (.dup, 1) := by decide +kernel
theorem dX2_take_25 : decode cX2_take 25 = .ok (.getfield 101, 3) := by decide +kernel
theorem dX2_take_28 : decode cX2_take 28 = .ok (.iload_n 2, 1) := by decide +kernel
theorem dX2_take_29 : decode cX2_take 29 = .ok (.isub, 1) := by decide +kernel
theorem dX2_take_30 : decode cX2_take 30 = .ok (.putfield 101, 3) := by decide +kernel
theorem dX2_take_33 : decode cX2_take 33 = .ok (.aload_n 1, 1) := by decide +kernel
theorem dX2_take_34 : decode cX2_take 34 = .ok (.getfield 112, 3) := by decide +kernel
theorem dX2_take_37 : decode cX2_take 37 = .ok (.dup, 1) := by decide +kernel
theorem dX2_take_38 : decode cX2_take 38 = .ok (.getfield 77, 3) := by decide +kernel
theorem dX2_take_41 : decode cX2_take 41 = .ok (.iload_n 3, 1) := by decide +kernel
theorem dX2_take_42 : decode cX2_take 42 = .ok (.iload_n 2, 1) := by decide +kernel
theorem dX2_take_43 : decode cX2_take 43 = .ok (.imul, 1) := by decide +kernel
theorem dX2_take_44 : decode cX2_take 44 = .ok (.iconst 2, 1) := by decide +kernel
theorem dX2_take_45 : decode cX2_take 45 = .ok (.iload 4, 2) := by decide +kernel
theorem dX2_take_47 : decode cX2_take 47 = .ok (.imul, 1) := by decide +kernel
theorem dX2_take_48 : decode cX2_take 48 = .ok (.iadd, 1) := by decide +kernel
theorem dX2_take_49 : decode cX2_take 49 = .ok (.isub, 1) := by decide +kernel
theorem dX2_take_50 : decode cX2_take 50 = .ok (.putfield 77, 3) := by decide +kernel
theorem dX2_take_53 : decode cX2_take 53 = .ok (.aload_n 0, 1) := by decide +kernel
theorem dX2_take_54 : decode cX2_take 54 = .ok (.dup, 1) := by decide +kernel
theorem dX2_take_55 : decode cX2_take 55 = .ok (.getfield 53, 3) := by decide +kernel
theorem dX2_take_58 : decode cX2_take 58 = .ok (.iload_n 2, 1) := by decide +kernel
theorem dX2_take_59 : decode cX2_take 59 = .ok (.isub, 1) := by decide +kernel
theorem dX2_take_60 : decode cX2_take 60 = .ok (.putfield 53, 3) := by decide +kernel
theorem dX2_take_63 : decode cX2_take 63 = .ok (.aload_n 0, 1) := by decide +kernel
theorem dX2_take_64 : decode cX2_take 64 = .ok (.dup, 1) := by decide +kernel
theorem dX2_take_65 : decode cX2_take 65 = .ok (.getfield 59, 3) := by decide +kernel
theorem dX2_take_68 : decode cX2_take 68 = .ok (.iload 4, 2) := by decide +kernel
theorem dX2_take_70 : decode cX2_take 70 = .ok (.isub, 1) := by decide +kernel
theorem dX2_take_71 : decode cX2_take 71 = .ok (.putfield 59, 3) := by decide +kernel
theorem dX2_take_74 : decode cX2_take 74 = .ok (.aload_n 0, 1) := by decide +kernel
theorem dX2_take_75 : decode cX2_take 75 = .ok (.bipush 99, 2) := by decide +kernel
theorem dX2_take_77 : decode cX2_take 77 = .ok (.iload_n 3, 1) := by decide +kernel
theorem dX2_take_78 : decode cX2_take 78 = .ok (.bipush 10, 2) := by decide +kernel
theorem dX2_take_80 : decode cX2_take 80 = .ok (.iadd, 1) := by decide +kernel
theorem dX2_take_81 : decode cX2_take 81 = .ok (.invokestatic 25, 3) := by decide +kernel
theorem dX2_take_84 : decode cX2_take 84 = .ok (.putfield 47, 3) := by decide +kernel
theorem dX2_take_87 : decode cX2_take 87 = .ok (.return_, 1) := by decide +kernel
theorem dX3_init_0 : decode cX3_init 0 = .ok (.aload_n 0, 1) := by decide +kernel
theorem dX3_init_1 : decode cX3_init 1 = .ok (.invokespecial 1, 3) := by decide +kernel
theorem dX3_init_4 : decode cX3_init 4 = .ok (.aload_n 0, 1) := by decide +kernel
theorem dX3_init_5 : decode cX3_init 5 = .ok (.aload_n 1, 1) := by decide +kernel
theorem dX3_init_6 : decode cX3_init 6 = .ok (.putfield 7, 3) := by decide +kernel
theorem dX3_init_9 : decode cX3_init 9 = .ok (.aload_n 0, 1) := by decide +kernel
theorem dX3_init_10 : decode cX3_init 10 = .ok (.iload_n 2, 1) := by decide +kernel
theorem dX3_init_11 : decode cX3_init 11 = .ok (.putfield 13, 3) := by decide +kernel
theorem dX3_init_14 : decode cX3_init 14 = .ok (.aload_n 0, 1) := by decide +kernel
theorem dX3_init_15 : decode cX3_init 15 = .ok (.iload_n 3, 1) := by decide +kernel
theorem dX3_init_16 : decode cX3_init 16 = .ok (.putfield 17, 3) := by decide +kernel
theorem dX3_init_19 : decode cX3_init 19 = .ok (.aload_n 0, 1) := by decide +kernel
theorem dX3_init_20 : decode cX3_init 20 = .ok (.iload 4, 2) := by decide +kernel
theorem dX3_init_22 : decode cX3_init 22 = .ok (.putfield 20, 3) := by decide +kernel
theorem dX3_init_25 : decode cX3_init 25 = .ok (.return_, 1) := by decide +kernel
theorem dX3_growBy_0 : decode cX3_growBy 0 = .ok (.aload_n 0, 1) := by decide +kernel
theorem dX3_growBy_1 : decode cX3_growBy 1 = .ok (.dup, 1) := by decide +kernel
theorem dX3_growBy_2 : decode cX3_growBy 2 = .ok (.getfield 23, 3) := by decide +kernel
theorem dX3_growBy_5 : decode cX3_growBy 5 = .ok (.iload_n 1, 1) := by decide +kernel
theorem dX3_growBy_6 : decode cX3_growBy 6 = .ok (.iadd, 1) := by decide +kernel
theorem dX3_growBy_7 : decode cX3_growBy 7 = .ok (.putfield 23, 3) := by decide +kernel
theorem dX3_growBy_10 : decode cX3_growBy 10 = .ok (.aload_n 0, 1) := by decide +kernel
theorem dX3_growBy_11 : decode cX3_growBy 11 = .ok (.getfield 26, 3) := by decide +kernel
theorem dX3_growBy_14 : decode cX3_growBy 14 = .ok (.ifCond .eq 13, 3) := by decide +kernel
theorem dX3_growBy_17 : decode cX3_growBy 17 = .ok (.aload_n 0, 1) := by decide +kernel
theorem dX3_growBy_18 : decode cX3_growBy 18 = .ok (.dup, 1) := by decide +kernel
theorem dX3_growBy_19 : decode cX3_growBy 19 = .ok (.getfield 30, 3) := by decide +kernel
theorem dX3_growBy_22 : decode cX3_growBy 22 = .ok (.iconst 1, 1) := by decide +kernel
theorem dX3_growBy_23 : decode cX3_growBy 23 = .ok (.iadd, 1) := by decide +kernel
theorem dX3_growBy_24 : decode cX3_growBy 24 = .ok (.putfield 30, 3) := by decide +kernel
theorem dX3_growBy_27 : decode cX3_growBy 27 = .ok (.aload_n 0, 1) := by decide +kernel
theorem dX3_growBy_28 : decode cX3_growBy 28 = .ok (.aload_n 0, 1) := by decide +kernel
theorem dX3_growBy_29 : decode cX3_growBy 29 = .ok (.getfield 26, 3) := by decide +kernel
theorem dX3_growBy_32 : decode cX3_growBy 32 = .ok (.ifCond .ne 17, 3) := by decide +kernel
theorem dX3_growBy_35 : decode cX3_growBy 35 = .ok (.aload_n 0, 1) := by decide +kernel
theorem dX3_growBy_36 : decode cX3_growBy 36 = .ok (.getfield 23, 3) := by decide +kernel
theorem dX3_growBy_39 : decode cX3_growBy 39 = .ok (.aload_n 0, 1) := by decide +kernel
theorem dX3_growBy_40 : decode cX3_growBy 40 = .ok (.getfield 17, 3) := by decide +kernel
theorem dX3_growBy_43 : decode cX3_growBy 43 = .ok (.invokestatic 33, 3) := by decide +kernel
theorem dX3_growBy_46 : decode cX3_growBy 46 = .ok (.if_icmp .lt 7, 3) := by decide +kernel
theorem dX3_growBy_49 : decode cX3_growBy 49 = .ok (.iconst 1, 1) := by decide +kernel
theorem dX3_growBy_50 : decode cX3_growBy 50 = .ok (.goto 4, 3) := by decide +kernel
theorem dX3_growBy_53 : decode cX3_growBy 53 = .ok (.iconst 0, 1) := by decide +kernel
theorem dX3_growBy_54 : decode cX3_growBy 54 = .ok (.putfield 26, 3) := by decide +kernel
theorem dX3_growBy_57 : decode cX3_growBy 57 = .ok (.return_, 1) := by decide +kernel
theorem dX3_numberOf_0 : decode cX3_numberOf 0 = .ok (.iload_n 1, 1) := by decide +kernel
theorem dX3_numberOf_1 : decode cX3_numberOf 1 = .ok (.tableswitch 68 0 4 #[35, 40, 45, 50, 55], 35) := by decide +kernel
theorem dX3_numberOf_36 : decode cX3_numberOf 36 = .ok (.aload_n 0, 1) := by decide +kernel
theorem dX3_numberOf_37 : decode cX3_numberOf 37 = .ok (.getfield 13, 3) := by decide +kernel
theorem dX3_numberOf_40 : decode cX3_numberOf 40 = .ok (.ireturn, 1) := by decide +kernel
theorem dX3_numberOf_41 : decode cX3_numberOf 41 = .ok (.aload_n 0, 1) := by decide +kernel
theorem dX3_numberOf_42 : decode cX3_numberOf 42 = .ok (.getfield 17, 3) := by decide +kernel
theorem dX3_numberOf_45 : decode cX3_numberOf 45 = .ok (.ireturn, 1) := by decide +kernel
theorem dX3_numberOf_46 : decode cX3_numberOf 46 = .ok (.aload_n 0, 1) := by decide +kernel
theorem dX3_numberOf_47 : decode cX3_numberOf 47 = .ok (.getfield 20, 3) := by decide +kernel
theorem dX3_numberOf_50 : decode cX3_numberOf 50 = .ok (.ireturn, 1) := by decide +kernel
theorem dX3_numberOf_51 : decode cX3_numberOf 51 = .ok (.aload_n 0, 1) := by decide +kernel
theorem dX3_numberOf_52 : decode cX3_numberOf 52 = .ok (.getfield 23, 3) := by decide +kernel
theorem dX3_numberOf_55 : decode cX3_numberOf 55 = .ok (.ireturn, 1) := by decide +kernel
theorem dX3_numberOf_56 : decode cX3_numberOf 56 = .ok (.aload_n 0, 1) := by decide +kernel
theorem dX3_numberOf_57 : decode cX3_numberOf 57 = .ok (.getfield 26, 3) := by decide +kernel
theorem dX3_numberOf_60 : decode cX3_numberOf 60 = .ok (.ifCond .eq 7, 3) := by decide +kernel
theorem dX3_numberOf_63 : decode cX3_numberOf 63 = .ok (.iconst 1, 1) := by decide +kernel
theorem dX3_numberOf_64 : decode cX3_numberOf 64 = .ok (.goto 4, 3) := by decide +kernel
theorem dX3_numberOf_67 : decode cX3_numberOf 67 = .ok (.iconst 0, 1) := by decide +kernel
theorem dX3_numberOf_68 : decode cX3_numberOf 68 = .ok (.ireturn, 1) := by decide +kernel
theorem dX3_numberOf_69 : decode cX3_numberOf 69 = .ok (.aload_n 0, 1) := by decide +kernel
theorem dX3_numberOf_70 : decode cX3_numberOf 70 = .ok (.getfield 30, 3) := by decide +kernel
theorem dX3_numberOf_73 : decode cX3_numberOf 73 = .ok (.ireturn, 1) := by decide +kernel
theorem dX4_init_0 : decode cX4_init 0 = .ok (.aload_n 0, 1) := by decide +kernel
theorem dX4_init_1 : decode cX4_init 1 = .ok (.invokespecial 1, 3) := by decide +kernel
theorem dX4_init_4 : decode cX4_init 4 = .ok (.aload_n 0, 1) := by decide +kernel
theorem dX4_init_5 : decode cX4_init 5 = .ok (.new 7, 3) := by decide +kernel
theorem dX4_init_8 : decode cX4_init 8 = .ok (.dup, 1) := by decide +kernel
theorem dX4_init_9 : decode cX4_init 9 = .ok (.iconst 0, 1) := by decide +kernel
theorem dX4_init_10 : decode cX4_init 10 = .ok (.invokespecial 9, 3) := by decide +kernel
theorem dX4_init_13 : decode cX4_init 13 = .ok (.putfield 12, 3) := by decide +kernel
theorem dX4_init_16 : decode cX4_init 16 = .ok (.aload_n 0, 1) := by decide +kernel
theorem dX4_init_17 : decode cX4_init 17 = .ok (.bipush 100, 2) := by decide +kernel
theorem dX4_init_19 : decode cX4_init 19 = .ok (.putfield 18, 3) := by decide +kernel
theorem dX4_init_22 : decode cX4_init 22 = .ok (.aload_n 0, 1) := by decide +kernel
theorem dX4_init_23 : decode cX4_init 23 = .ok (.bipush 50, 2) := by decide +kernel
theorem dX4_init_25 : decode cX4_init 25 = .ok (.putfield 22, 3) := by decide +kernel
theorem dX4_init_28 : decode cX4_init 28 = .ok (.return_, 1) := by decide +kernel
theorem dX4_numberOf_0 : decode cX4_numberOf 0 = .ok (.iload_n 1, 1) := by decide +kernel
theorem dX4_numberOf_1 : decode cX4_numberOf 1 = .ok (.tableswitch 51 0 3 #[31, 36, 41, 46], 31) := by decide +kernel
theorem dX4_numberOf_32 : decode cX4_numberOf 32 = .ok (.aload_n 0, 1) := by decide +kernel
theorem dX4_numberOf_33 : decode cX4_numberOf 33 = .ok (.getfield 18, 3) := by decide +kernel
theorem dX4_numberOf_36 : decode cX4_numberOf 36 = .ok (.ireturn, 1) := by decide +kernel
theorem dX4_numberOf_37 : decode cX4_numberOf 37 = .ok (.aload_n 0, 1) := by decide +kernel
theorem dX4_numberOf_38 : decode cX4_numberOf 38 = .ok (.getfield 25, 3) := by decide +kernel
theorem dX4_numberOf_41 : decode cX4_numberOf 41 = .ok (.ireturn, 1) := by decide +kernel
theorem dX4_numberOf_42 : decode cX4_numberOf 42 = .ok (.aload_n 0, 1) := by decide +kernel
theorem dX4_numberOf_43 : decode cX4_numberOf 43 = .ok (.getfield 22, 3) := by decide +kernel
theorem dX4_numberOf_46 : decode cX4_numberOf 46 = .ok (.ireturn, 1) := by decide +kernel
theorem dX4_numberOf_47 : decode cX4_numberOf 47 = .ok (.aload_n 0, 1) := by decide +kernel
theorem dX4_numberOf_48 : decode cX4_numberOf 48 = .ok (.getfield 28, 3) := by decide +kernel
theorem dX4_numberOf_51 : decode cX4_numberOf 51 = .ok (.ireturn, 1) := by decide +kernel
theorem dX4_numberOf_52 : decode cX4_numberOf 52 = .ok (.aload_n 0, 1) := by decide +kernel
theorem dX4_numberOf_53 : decode cX4_numberOf 53 = .ok (.getfield 12, 3) := by decide +kernel
theorem dX4_numberOf_56 : decode cX4_numberOf 56 = .ok (.invokevirtual 31, 3) := by decide +kernel
theorem dX4_numberOf_59 : decode cX4_numberOf 59 = .ok (.ireturn, 1) := by decide +kernel
theorem dX5_init_0 : decode cX5_init 0 = .ok (.aload_n 0, 1) := by decide +kernel
theorem dX5_init_1 : decode cX5_init 1 = .ok (.invokespecial 3, 3) := by decide +kernel
theorem dX5_init_4 : decode cX5_init 4 = .ok (.aload_n 0, 1) := by decide +kernel
theorem dX5_init_5 : decode cX5_init 5 = .ok (.iconst 1, 1) := by decide +kernel
theorem dX5_init_6 : decode cX5_init 6 = .ok (.putfield 9, 3) := by decide +kernel
theorem dX5_init_9 : decode cX5_init 9 = .ok (.aload_n 0, 1) := by decide +kernel
theorem dX5_init_10 : decode cX5_init 10 = .ok (.iconst 0, 1) := by decide +kernel
theorem dX5_init_11 : decode cX5_init 11 = .ok (.putfield 15, 3) := by decide +kernel
theorem dX5_init_14 : decode cX5_init 14 = .ok (.aload_n 0, 1) := by decide +kernel
theorem dX5_init_15 : decode cX5_init 15 = .ok (.iconst (-1), 1) := by decide +kernel
theorem dX5_init_16 : decode cX5_init 16 = .ok (.putfield 18, 3) := by decide +kernel
theorem dX5_init_19 : decode cX5_init 19 = .ok (.aload_n 0, 1) := by decide +kernel
theorem dX5_init_20 : decode cX5_init 20 = .ok (.iconst (-1), 1) := by decide +kernel
theorem dX5_init_21 : decode cX5_init 21 = .ok (.putfield 21, 3) := by decide +kernel
theorem dX5_init_24 : decode cX5_init 24 = .ok (.aload_n 0, 1) := by decide +kernel
theorem dX5_init_25 : decode cX5_init 25 = .ok (.iload_n 1, 1) := by decide +kernel
theorem dX5_init_26 : decode cX5_init 26 = .ok (.putfield 24, 3) := by decide +kernel
theorem dX5_init_29 : decode cX5_init 29 = .ok (.aload_n 0, 1) := by decide +kernel
theorem dX5_init_30 : decode cX5_init 30 = .ok (.aload_n 2, 1) := by decide +kernel
theorem dX5_init_31 : decode cX5_init 31 = .ok (.getfield 27, 3) := by decide +kernel
theorem dX5_init_34 : decode cX5_init 34 = .ok (.putfield 33, 3) := by decide +kernel
theorem dX5_init_37 : decode cX5_init 37 = .ok (.aload_n 0, 1) := by decide +kernel
theorem dX5_init_38 : decode cX5_init 38 = .ok (.aload_n 2, 1) := by decide +kernel
theorem dX5_init_39 : decode cX5_init 39 = .ok (.getfield 34, 3) := by decide +kernel
theorem dX5_init_42 : decode cX5_init 42 = .ok (.putfield 37, 3) := by decide +kernel
theorem dX5_init_45 : decode cX5_init 45 = .ok (.aload_n 0, 1) := by decide +kernel
theorem dX5_init_46 : decode cX5_init 46 = .ok (.aload_n 2, 1) := by decide +kernel
theorem dX5_init_47 : decode cX5_init 47 = .ok (.getfield 38, 3) := by decide +kernel
theorem dX5_init_50 : decode cX5_init 50 = .ok (.putfield 41, 3) := by decide +kernel
theorem dX5_init_53 : decode cX5_init 53 = .ok (.aload_n 0, 1) := by decide +kernel
theorem dX5_init_54 : decode cX5_init 54 = .ok (.aload_n 2, 1) := by decide +kernel
theorem dX5_init_55 : decode cX5_init 55 = .ok (.getfield 42, 3) := by decide +kernel
theorem dX5_init_58 : decode cX5_init 58 = .ok (.bipush 10, 2) := by decide +kernel
theorem dX5_init_60 : decode cX5_init 60 = .ok (.if_icmp .gt 7, 3) := by decide +kernel
theorem dX5_init_63 : decode cX5_init 63 = .ok (.iconst 0, 1) := by decide +kernel
theorem dX5_init_64 : decode cX5_init 64 = .ok (.goto 17, 3) := by decide +kernel
theorem dX5_init_67 : decode cX5_init 67 = .ok (.aload_n 2, 1) := by decide +kernel
theorem dX5_init_68 : decode cX5_init 68 = .ok (.getfield 42, 3) := by decide +kernel
theorem dX5_init_71 : decode cX5_init 71 = .ok (.bipush 20, 2) := by decide +kernel
theorem dX5_init_73 : decode cX5_init 73 = .ok (.if_icmp .gt 7, 3) := by decide +kernel
theorem dX5_init_76 : decode cX5_init 76 = .ok (.iconst 1, 1) := by decide +kernel
theorem dX5_init_77 : decode cX5_init 77 = .ok (.goto 4, 3) := by decide +kernel
theorem dX5_init_80 : decode cX5_init 80 = .ok (.iconst 2, 1) := by decide +kernel
theorem dX5_init_81 : decode cX5_init 81 = .ok (.putfield 45, 3) := by decide +kernel
theorem dX5_init_84 : decode cX5_init 84 = .ok (.aload_n 0, 1) := by decide +kernel
theorem dX5_init_85 : decode cX5_init 85 = .ok (.iload_n 3, 1) := by decide +kernel
theorem dX5_init_86 : decode cX5_init 86 = .ok (.putfield 48, 3) := by decide +kernel
theorem dX5_init_89 : decode cX5_init 89 = .ok (.aload_n 0, 1) := by decide +kernel
theorem dX5_init_90 : decode cX5_init 90 = .ok (.iconst 0, 1) := by decide +kernel
theorem dX5_init_91 : decode cX5_init 91 = .ok (.aload_n 2, 1) := by decide +kernel
theorem dX5_init_92 : decode cX5_init 92 = .ok (.getfield 38, 3) := by decide +kernel
theorem dX5_init_95 : decode cX5_init 95 = .ok (.invokestatic 51, 3) := by decide +kernel
theorem dX5_init_98 : decode cX5_init 98 = .ok (.iconst 2, 1) := by decide +kernel
theorem dX5_init_99 : decode cX5_init 99 = .ok (.aload_n 2, 1) := by decide +kernel
theorem dX5_init_100 : decode cX5_init 100 = .ok (.getfield 42, 3) := by decide +kernel
theorem dX5_init_103 : decode cX5_init 103 = .ok (.imul, 1) := by decide +kernel
theorem dX5_init_104 : decode cX5_init 104 = .ok (.isub, 1) := by decide +kernel
theorem dX5_init_105 : decode cX5_init 105 = .ok (.invokestatic 55, 3) := by decide +kernel
theorem dX5_init_108 : decode cX5_init 108 = .ok (.putfield 61, 3) := by decide +kernel
theorem dX5_init_111 : decode cX5_init 111 = .ok (.aload_n 0, 1) := by decide +kernel
theorem dX5_init_112 : decode cX5_init 112 = .ok (.iload 4, 2) := by decide +kernel
theorem dX5_init_114 : decode cX5_init 114 = .ok (.putfield 64, 3) := by decide +kernel
theorem dX5_init_117 : decode cX5_init 117 = .ok (.return_, 1) := by decide +kernel
theorem dX5_numberOf_0 : decode cX5_numberOf 0 = .ok (.iload_n 1, 1) := by decide +kernel
theorem dX5_numberOf_1 : decode cX5_numberOf 1 = .ok (.tableswitch 96 0 8 #[51, 56, 61, 66, 71, 76, 81, 86, 91], 51) := by decide +kernel
theorem dX5_numberOf_52 : decode cX5_numberOf 52 = .ok (.aload_n 0, 1) := by decide +kernel
theorem dX5_numberOf_53 : decode cX5_numberOf 53 = .ok (.getfield 37, 3) := by decide +kernel
theorem dX5_numberOf_56 : decode cX5_numberOf 56 = .ok (.ireturn, 1) := by decide +kernel
theorem dX5_numberOf_57 : decode cX5_numberOf 57 = .ok (.aload_n 0, 1) := by decide +kernel
theorem dX5_numberOf_58 : decode cX5_numberOf 58 = .ok (.getfield 41, 3) := by decide +kernel
theorem dX5_numberOf_61 : decode cX5_numberOf 61 = .ok (.ireturn, 1) := by decide +kernel
theorem dX5_numberOf_62 : decode cX5_numberOf 62 = .ok (.aload_n 0, 1) := by decide +kernel
theorem dX5_numberOf_63 : decode cX5_numberOf 63 = .ok (.getfield 48, 3) := by decide +kernel
theorem dX5_numberOf_66 : decode cX5_numberOf 66 = .ok (.ireturn, 1) := by decide +kernel
theorem dX5_numberOf_67 : decode cX5_numberOf 67 = .ok (.aload_n 0, 1) := by decide +kernel
theorem dX5_numberOf_68 : decode cX5_numberOf 68 = .ok (.getfield 45, 3) := by decide +kernel
theorem dX5_numberOf_71 : decode cX5_numberOf 71 = .ok (.ireturn, 1) := by decide +kernel
theorem dX5_numberOf_72 : decode cX5_numberOf 72 = .ok (.aload_n 0, 1) := by decide +kernel
theorem dX5_numberOf_73 : decode cX5_numberOf 73 = .ok (.getfield 61, 3) := by decide +kernel
theorem dX5_numberOf_76 : decode cX5_numberOf 76 = .ok (.ireturn, 1) := by decide +kernel
theorem dX5_numberOf_77 : decode cX5_numberOf 77 = .ok (.aload_n 0, 1) := by decide +kernel
theorem dX5_numberOf_78 : decode cX5_numberOf 78 = .ok (.getfield 64, 3) := by decide +kernel
theorem dX5_numberOf_81 : decode cX5_numberOf 81 = .ok (.ireturn, 1) := by decide +kernel
theorem dX5_numberOf_82 : decode cX5_numberOf 82 = .ok (.aload_n 0, 1) := by decide +kernel
theorem dX5_numberOf_83 : decode cX5_numberOf 83 = .ok (.getfield 9, 3) := by decide +kernel
theorem dX5_numberOf_86 : decode cX5_numberOf 86 = .ok (.ireturn, 1) := by decide +kernel
theorem dX5_numberOf_87 : decode cX5_numberOf 87 = .ok (.aload_n 0, 1) := by decide +kernel
theorem dX5_numberOf_88 : decode cX5_numberOf 88 = .ok (.getfield 15, 3) := by decide +kernel
theorem dX5_numberOf_91 : decode cX5_numberOf 91 = .ok (.ireturn, 1) := by decide +kernel
theorem dX5_numberOf_92 : decode cX5_numberOf 92 = .ok (.aload_n 0, 1) := by decide +kernel
theorem dX5_numberOf_93 : decode cX5_numberOf 93 = .ok (.getfield 18, 3) := by decide +kernel
theorem dX5_numberOf_96 : decode cX5_numberOf 96 = .ok (.ireturn, 1) := by decide +kernel
theorem dX5_numberOf_97 : decode cX5_numberOf 97 = .ok (.aload_n 0, 1) := by decide +kernel
theorem dX5_numberOf_98 : decode cX5_numberOf 98 = .ok (.getfield 21, 3) := by decide +kernel
theorem dX5_numberOf_101 : decode cX5_numberOf 101 = .ok (.ireturn, 1) := by decide +kernel
theorem dX6_init_0 : decode cX6_init 0 = .ok (.aload_n 0, 1) := by decide +kernel
theorem dX6_init_1 : decode cX6_init 1 = .ok (.invokespecial 1, 3) := by decide +kernel
theorem dX6_init_4 : decode cX6_init 4 = .ok (.aload_n 0, 1) := by decide +kernel
theorem dX6_init_5 : decode cX6_init 5 = .ok (.aload_n 1, 1) := by decide +kernel
theorem dX6_init_6 : decode cX6_init 6 = .ok (.putfield 7, 3) := by decide +kernel
theorem dX6_init_9 : decode cX6_init 9 = .ok (.aload_n 0, 1) := by decide +kernel
theorem dX6_init_10 : decode cX6_init 10 = .ok (.iload_n 2, 1) := by decide +kernel
theorem dX6_init_11 : decode cX6_init 11 = .ok (.putfield 13, 3) := by decide +kernel
theorem dX6_init_14 : decode cX6_init 14 = .ok (.aload_n 0, 1) := by decide +kernel
theorem dX6_init_15 : decode cX6_init 15 = .ok (.iload_n 3, 1) := by decide +kernel
theorem dX6_init_16 : decode cX6_init 16 = .ok (.putfield 17, 3) := by decide +kernel
theorem dX6_init_19 : decode cX6_init 19 = .ok (.aload_n 0, 1) := by decide +kernel
theorem dX6_init_20 : decode cX6_init 20 = .ok (.iload 4, 2) := by decide +kernel
theorem dX6_init_22 : decode cX6_init 22 = .ok (.putfield 20, 3) := by decide +kernel
theorem dX6_init_25 : decode cX6_init 25 = .ok (.aload_n 0, 1) := by decide +kernel
theorem dX6_init_26 : decode cX6_init 26 = .ok (.iload 5, 2) := by decide +kernel
theorem dX6_init_28 : decode cX6_init 28 = .ok (.putfield 23, 3) := by decide +kernel
theorem dX6_init_31 : decode cX6_init 31 = .ok (.aload_n 0, 1) := by decide +kernel
theorem dX6_init_32 : decode cX6_init 32 = .ok (.iload 6, 2) := by decide +kernel
theorem dX6_init_34 : decode cX6_init 34 = .ok (.putfield 26, 3) := by decide +kernel
theorem dX6_init_37 : decode cX6_init 37 = .ok (.aload_n 0, 1) := by decide +kernel
theorem dX6_init_38 : decode cX6_init 38 = .ok (.iload 7, 2) := by decide +kernel
theorem dX6_init_40 : decode cX6_init 40 = .ok (.putfield 29, 3) := by decide +kernel
theorem dX6_init_43 : decode cX6_init 43 = .ok (.return_, 1) := by decide +kernel
theorem dX7_init_0 : decode cX7_init 0 = .ok (.aload_n 0, 1) := by decide +kernel
theorem dX7_init_1 : decode cX7_init 1 = .ok (.invokespecial 1, 3) := by decide +kernel
theorem dX7_init_4 : decode cX7_init 4 = .ok (.aload_n 0, 1) := by decide +kernel
theorem dX7_init_5 : decode cX7_init 5 = .ok (.aload_n 1, 1) := by decide +kernel
theorem dX7_init_6 : decode cX7_init 6 = .ok (.putfield 7, 3) := by decide +kernel
theorem dX7_init_9 : decode cX7_init 9 = .ok (.aload_n 0, 1) := by decide +kernel
theorem dX7_init_10 : decode cX7_init 10 = .ok (.aload_n 2, 1) := by decide +kernel
theorem dX7_init_11 : decode cX7_init 11 = .ok (.putfield 13, 3) := by decide +kernel
theorem dX7_init_14 : decode cX7_init 14 = .ok (.aload_n 0, 1) := by decide +kernel
theorem dX7_init_15 : decode cX7_init 15 = .ok (.aload_n 3, 1) := by decide +kernel
theorem dX7_init_16 : decode cX7_init 16 = .ok (.putfield 17, 3) := by decide +kernel
theorem dX7_init_19 : decode cX7_init 19 = .ok (.aload_n 0, 1) := by decide +kernel
theorem dX7_init_20 : decode cX7_init 20 = .ok (.iload 4, 2) := by decide +kernel
theorem dX7_init_22 : decode cX7_init 22 = .ok (.putfield 21, 3) := by decide +kernel
theorem dX7_init_25 : decode cX7_init 25 = .ok (.aload_n 0, 1) := by decide +kernel
theorem dX7_init_26 : decode cX7_init 26 = .ok (.iload 5, 2) := by decide +kernel
theorem dX7_init_28 : decode cX7_init 28 = .ok (.putfield 25, 3) := by decide +kernel
theorem dX7_init_31 : decode cX7_init 31 = .ok (.aload_n 0, 1) := by decide +kernel
theorem dX7_init_32 : decode cX7_init 32 = .ok (.iload 6, 2) := by decide +kernel
theorem dX7_init_34 : decode cX7_init 34 = .ok (.putfield 28, 3) := by decide +kernel
theorem dX7_init_37 : decode cX7_init 37 = .ok (.aload_n 0, 1) := by decide +kernel
theorem dX7_init_38 : decode cX7_init 38 = .ok (.iload 7, 2) := by decide +kernel
theorem dX7_init_40 : decode cX7_init 40 = .ok (.putfield 31, 3) := by decide +kernel
theorem dX7_init_43 : decode cX7_init 43 = .ok (.return_, 1) := by decide +kernel
theorem dX7_numberOf_0 : decode cX7_numberOf 0 = .ok (.iload_n 1, 1) := by decide +kernel
theorem dX7_numberOf_1 : decode cX7_numberOf 1 = .ok (.tableswitch 57 0 3 #[31, 39, 47, 52], 31) := by decide +kernel
theorem dX7_numberOf_32 : decode cX7_numberOf 32 = .ok (.aload_n 0, 1) := by decide +kernel
theorem dX7_numberOf_33 : decode cX7_numberOf 33 = .ok (.getfield 7, 3) := by decide +kernel
theorem dX7_numberOf_36 : decode cX7_numberOf 36 = .ok (.getfield 34, 3) := by decide +kernel
theorem dX7_numberOf_39 : decode cX7_numberOf 39 = .ok (.ireturn, 1) := by decide +kernel
theorem dX7_numberOf_40 : decode cX7_numberOf 40 = .ok (.aload_n 0, 1) := by decide +kernel
theorem dX7_numberOf_41 : decode cX7_numberOf 41 = .ok (.getfield 13, 3) := by decide +kernel
theorem dX7_numberOf_44 : decode cX7_numberOf 44 = .ok (.getfield 39, 3) := by decide +kernel
theorem dX7_numberOf_47 : decode cX7_numberOf 47 = .ok (.ireturn, 1) := by decide +kernel
theorem dX7_numberOf_48 : decode cX7_numberOf 48 = .ok (.aload_n 0, 1) := by decide +kernel
theorem dX7_numberOf_49 : decode cX7_numberOf 49 = .ok (.getfield 21, 3) := by decide +kernel
theorem dX7_numberOf_52 : decode cX7_numberOf 52 = .ok (.ireturn, 1) := by decide +kernel
theorem dX7_numberOf_53 : decode cX7_numberOf 53 = .ok (.aload_n 0, 1) := by decide +kernel
theorem dX7_numberOf_54 : decode cX7_numberOf 54 = .ok (.getfield 25, 3) := by decide +kernel
theorem dX7_numberOf_57 : decode cX7_numberOf 57 = .ok (.ireturn, 1) := by decide +kernel
theorem dX7_numberOf_58 : decode cX7_numberOf 58 = .ok (.aload_n 0, 1) := by decide +kernel
theorem dX7_numberOf_59 : decode cX7_numberOf 59 = .ok (.getfield 28, 3) := by decide +kernel
theorem dX7_numberOf_62 : decode cX7_numberOf 62 = .ok (.ireturn, 1) := by decide +kernel
theorem dX8_init_0 : decode cX8_init 0 = .ok (.aload_n 0, 1) := by decide +kernel
theorem dX8_init_1 : decode cX8_init 1 = .ok (.invokespecial 1, 3) := by decide +kernel
theorem dX8_init_4 : decode cX8_init 4 = .ok (.aload_n 0, 1) := by decide +kernel
theorem dX8_init_5 : decode cX8_init 5 = .ok (.aload_n 1, 1) := by decide +kernel
theorem dX8_init_6 : decode cX8_init 6 = .ok (.putfield 7, 3) := by decide +kernel
theorem dX8_init_9 : decode cX8_init 9 = .ok (.aload_n 0, 1) := by decide +kernel
theorem dX8_init_10 : decode cX8_init 10 = .ok (.iload_n 2, 1) := by decide +kernel
theorem dX8_init_11 : decode cX8_init 11 = .ok (.putfield 13, 3) := by decide +kernel
theorem dX8_init_14 : decode cX8_init 14 = .ok (.aload_n 0, 1) := by decide +kernel
theorem dX8_init_15 : decode cX8_init 15 = .ok (.iload_n 3, 1) := by decide +kernel
theorem dX8_init_16 : decode cX8_init 16 = .ok (.putfield 17, 3) := by decide +kernel
theorem dX8_init_19 : decode cX8_init 19 = .ok (.aload_n 0, 1) := by decide +kernel
theorem dX8_init_20 : decode cX8_init 20 = .ok (.iload 4, 2) := by decide +kernel
theorem dX8_init_22 : decode cX8_init 22 = .ok (.putfield 20, 3) := by decide +kernel
theorem dX8_init_25 : decode cX8_init 25 = .ok (.return_, 1) := by decide +kernel
theorem dX9_init_0 : decode cX9_init 0 = .ok (.aload_n 0, 1) := by decide +kernel
theorem dX9_init_1 : decode cX9_init 1 = .ok (.invokespecial 1, 3) := by decide +kernel
theorem dX9_init_4 : decode cX9_init 4 = .ok (.aload_n 0, 1) := by decide +kernel
theorem dX9_init_5 : decode cX9_init 5 = .ok (.new 7, 3) := by decide +kernel
theorem dX9_init_8 : decode cX9_init 8 = .ok (.dup, 1) := by decide +kernel
theorem dX9_init_9 : decode cX9_init 9 = .ok (.invokespecial 9, 3) := by decide +kernel
theorem dX9_init_12 : decode cX9_init 12 = .ok (.putfield 10, 3) := by decide +kernel
theorem dX9_init_15 : decode cX9_init 15 = .ok (.aload_n 0, 1) := by decide +kernel
theorem dX9_init_16 : decode cX9_init 16 = .ok (.new 7, 3) := by decide +kernel
theorem dX9_init_19 : decode cX9_init 19 = .ok (.dup, 1) := by decide +kernel
theorem dX9_init_20 : decode cX9_init 20 = .ok (.invokespecial 9, 3) := by decide +kernel
theorem dX9_init_23 : decode cX9_init 23 = .ok (.putfield 16, 3) := by decide +kernel
theorem dX9_init_26 : decode cX9_init 26 = .ok (.aload_n 0, 1) := by decide +kernel
theorem dX9_init_27 : decode cX9_init 27 = .ok (.new 7, 3) := by decide +kernel
theorem dX9_init_30 : decode cX9_init 30 = .ok (.dup, 1) := by decide +kernel
theorem dX9_init_31 : decode cX9_init 31 = .ok (.invokespecial 9, 3) := by decide +kernel
theorem dX9_init_34 : decode cX9_init 34 = .ok (.putfield 19, 3) := by decide +kernel
theorem dX9_init_37 : decode cX9_init 37 = .ok (.aload_n 0, 1) := by decide +kernel
theorem dX9_init_38 : decode cX9_init 38 = .ok (.new 7, 3) := by decide +kernel
theorem dX9_init_41 : decode cX9_init 41 = .ok (.dup, 1) := by decide +kernel
theorem dX9_init_42 : decode cX9_init 42 = .ok (.invokespecial 9, 3) := by decide +kernel
theorem dX9_init_45 : decode cX9_init 45 = .ok (.putfield 22, 3) := by decide +kernel
theorem dX9_init_48 : decode cX9_init 48 = .ok (.aload_n 0, 1) := by decide +kernel
theorem dX9_init_49 : decode cX9_init 49 = .ok (.new 7, 3) := by decide +kernel
theorem dX9_init_52 : decode cX9_init 52 = .ok (.dup, 1) := by decide +kernel
theorem dX9_init_53 : decode cX9_init 53 = .ok (.invokespecial 9, 3) := by decide +kernel
theorem dX9_init_56 : decode cX9_init 56 = .ok (.putfield 25, 3) := by decide +kernel
theorem dX9_init_59 : decode cX9_init 59 = .ok (.aload_n 0, 1) := by decide +kernel
theorem dX9_init_60 : decode cX9_init 60 = .ok (.new 7, 3) := by decide +kernel
theorem dX9_init_63 : decode cX9_init 63 = .ok (.dup, 1) := by decide +kernel
theorem dX9_init_64 : decode cX9_init 64 = .ok (.invokespecial 9, 3) := by decide +kernel
theorem dX9_init_67 : decode cX9_init 67 = .ok (.putfield 28, 3) := by decide +kernel
theorem dX9_init_70 : decode cX9_init 70 = .ok (.aload_n 0, 1) := by decide +kernel
theorem dX9_init_71 : decode cX9_init 71 = .ok (.new 7, 3) := by decide +kernel
theorem dX9_init_74 : decode cX9_init 74 = .ok (.dup, 1) := by decide +kernel
theorem dX9_init_75 : decode cX9_init 75 = .ok (.invokespecial 9, 3) := by decide +kernel
theorem dX9_init_78 : decode cX9_init 78 = .ok (.putfield 31, 3) := by decide +kernel
theorem dX9_init_81 : decode cX9_init 81 = .ok (.aload_n 0, 1) := by decide +kernel
theorem dX9_init_82 : decode cX9_init 82 = .ok (.new 7, 3) := by decide +kernel
theorem dX9_init_85 : decode cX9_init 85 = .ok (.dup, 1) := by decide +kernel
theorem dX9_init_86 : decode cX9_init 86 = .ok (.invokespecial 9, 3) := by decide +kernel
theorem dX9_init_89 : decode cX9_init 89 = .ok (.putfield 34, 3) := by decide +kernel
theorem dX9_init_92 : decode cX9_init 92 = .ok (.aload_n 0, 1) := by decide +kernel
theorem dX9_init_93 : decode cX9_init 93 = .ok (.new 37, 3) := by decide +kernel
theorem dX9_init_96 : decode cX9_init 96 = .ok (.dup, 1) := by decide +kernel
theorem dX9_init_97 : decode cX9_init 97 = .ok (.sipush 500, 3) := by decide +kernel
theorem dX9_init_100 : decode cX9_init 100 = .ok (.invokespecial 39, 3) := by decide +kernel
theorem dX9_init_103 : decode cX9_init 103 = .ok (.putfield 42, 3) := by decide +kernel
theorem dX9_init_106 : decode cX9_init 106 = .ok (.aload_n 0, 1) := by decide +kernel
theorem dX9_init_107 : decode cX9_init 107 = .ok (.new 46, 3) := by decide +kernel
theorem dX9_init_110 : decode cX9_init 110 = .ok (.dup, 1) := by decide +kernel
theorem dX9_init_111 : decode cX9_init 111 = .ok (.invokespecial 48, 3) := by decide +kernel
theorem dX9_init_114 : decode cX9_init 114 = .ok (.putfield 49, 3) := by decide +kernel
theorem dX9_init_117 : decode cX9_init 117 = .ok (.aload_n 0, 1) := by decide +kernel
theorem dX9_init_118 : decode cX9_init 118 = .ok (.iconst 5, 1) := by decide +kernel
theorem dX9_init_119 : decode cX9_init 119 = .ok (.putfield 53, 3) := by decide +kernel
theorem dX9_init_122 : decode cX9_init 122 = .ok (.aload_n 0, 1) := by decide +kernel
theorem dX9_init_123 : decode cX9_init 123 = .ok (.bipush 60, 2) := by decide +kernel
theorem dX9_init_125 : decode cX9_init 125 = .ok (.putfield 57, 3) := by decide +kernel
theorem dX9_init_128 : decode cX9_init 128 = .ok (.aload_n 0, 1) := by decide +kernel
theorem dX9_init_129 : decode cX9_init 129 = .ok (.iconst 2, 1) := by decide +kernel
theorem dX9_init_130 : decode cX9_init 130 = .ok (.putfield 60, 3) := by decide +kernel
theorem dX9_init_133 : decode cX9_init 133 = .ok (.return_, 1) := by decide +kernel
theorem dX9_grower_0 : decode cX9_grower 0 = .ok (.aload_n 0, 1) := by decide +kernel
theorem dX9_grower_1 : decode cX9_grower 1 = .ok (.getfield 10, 3) := by decide +kernel
theorem dX9_grower_4 : decode cX9_grower 4 = .ok (.invokevirtual 63, 3) := by decide +kernel
theorem dX9_grower_7 : decode cX9_grower 7 = .ok (.iconst 4, 1) := by decide +kernel
theorem dX9_grower_8 : decode cX9_grower 8 = .ok (.if_icmp .lt 13, 3) := by decide +kernel
theorem dX9_grower_11 : decode cX9_grower 11 = .ok (.new 67, 3) := by decide +kernel
theorem dX9_grower_14 : decode cX9_grower 14 = .ok (.dup, 1) := by decide +kernel
theorem dX9_grower_15 : decode cX9_grower 15 = .ok (.ldc 69, 2) := by decide +kernel
theorem dX9_grower_17 : decode cX9_grower 17 = .ok (.invokespecial 71, 3) := by decide +kernel
theorem dX9_grower_20 : decode cX9_grower 20 = .ok (.athrow, 1) := by decide +kernel
theorem dX9_grower_21 : decode cX9_grower 21 = .ok (.aload_n 0, 1) := by decide +kernel
theorem dX9_grower_22 : decode cX9_grower 22 = .ok (.getfield 10, 3) := by decide +kernel
theorem dX9_grower_25 : decode cX9_grower 25 = .ok (.new 74, 3) := by decide +kernel
theorem dX9_grower_28 : decode cX9_grower 28 = .ok (.dup, 1) := by decide +kernel
theorem dX9_grower_29 : decode cX9_grower 29 = .ok (.invokespecial 76, 3) := by decide +kernel
theorem dX9_grower_32 : decode cX9_grower 32 = .ok (.invokevirtual 77, 3) := by decide +kernel
theorem dX9_grower_35 : decode cX9_grower 35 = .ok (.pop, 1) := by decide +kernel
theorem dX9_grower_36 : decode cX9_grower 36 = .ok (.aload_n 0, 1) := by decide +kernel
theorem dX9_grower_37 : decode cX9_grower 37 = .ok (.getfield 10, 3) := by decide +kernel
theorem dX9_grower_40 : decode cX9_grower 40 = .ok (.invokevirtual 63, 3) := by decide +kernel
theorem dX9_grower_43 : decode cX9_grower 43 = .ok (.iconst 1, 1) := by decide +kernel
theorem dX9_grower_44 : decode cX9_grower 44 = .ok (.isub, 1) := by decide +kernel
theorem dX9_grower_45 : decode cX9_grower 45 = .ok (.ireturn, 1) := by decide +kernel
theorem dX9_lamps_0 : decode cX9_lamps 0 = .ok (.aload_n 0, 1) := by decide +kernel
theorem dX9_lamps_1 : decode cX9_lamps 1 = .ok (.iload_n 1, 1) := by decide +kernel
theorem dX9_lamps_2 : decode cX9_lamps 2 = .ok (.invokevirtual 81, 3) := by decide +kernel
theorem dX9_lamps_5 : decode cX9_lamps 5 = .ok (.astore_n 3, 1) := by decide +kernel
theorem dX9_lamps_6 : decode cX9_lamps 6 = .ok (.iload_n 2, 1) := by decide +kernel
theorem dX9_lamps_7 : decode cX9_lamps 7 = .ok (.iconst 0, 1) := by decide +kernel
theorem dX9_lamps_8 : decode cX9_lamps 8 = .ok (.iconst 3, 1) := by decide +kernel
theorem dX9_lamps_9 : decode cX9_lamps 9 = .ok (.invokestatic 85, 3) := by decide +kernel
theorem dX9_lamps_12 : decode cX9_lamps 12 = .ok (.ifCond .ne 13, 3) := by decide +kernel
theorem dX9_lamps_15 : decode cX9_lamps 15 = .ok (.new 89, 3) := by decide +kernel
theorem dX9_lamps_18 : decode cX9_lamps 18 = .ok (.dup, 1) := by decide +kernel
theorem dX9_lamps_19 : decode cX9_lamps 19 = .ok (.ldc 91, 2) := by decide +kernel
theorem dX9_lamps_21 : decode cX9_lamps 21 = .ok (.invokespecial 93, 3) := by decide +kernel
theorem dX9_lamps_24 : decode cX9_lamps 24 = .ok (.athrow, 1) := by decide +kernel
theorem dX9_lamps_25 : decode cX9_lamps 25 = .ok (.aload_n 3, 1) := by decide +kernel
theorem dX9_lamps_26 : decode cX9_lamps 26 = .ok (.getfield 94, 3) := by decide +kernel
theorem dX9_lamps_29 : decode cX9_lamps 29 = .ok (.istore 4, 2) := by decide +kernel
theorem dX9_lamps_31 : decode cX9_lamps 31 = .ok (.aload_n 3, 1) := by decide +kernel
theorem dX9_lamps_32 : decode cX9_lamps 32 = .ok (.iload_n 2, 1) := by decide +kernel
theorem dX9_lamps_33 : decode cX9_lamps 33 = .ok (.putfield 94, 3) := by decide +kernel
theorem dX9_lamps_36 : decode cX9_lamps 36 = .ok (.iload 4, 2) := by decide +kernel
theorem dX9_lamps_38 : decode cX9_lamps 38 = .ok (.ireturn, 1) := by decide +kernel
theorem dX9_plant_0 : decode cX9_plant 0 = .ok (.aload_n 0, 1) := by decide +kernel
theorem dX9_plant_1 : decode cX9_plant 1 = .ok (.iload_n 1, 1) := by decide +kernel
theorem dX9_plant_2 : decode cX9_plant 2 = .ok (.invokevirtual 81, 3) := by decide +kernel
theorem dX9_plant_5 : decode cX9_plant 5 = .ok (.astore 4, 2) := by decide +kernel
theorem dX9_plant_7 : decode cX9_plant 7 = .ok (.iload_n 2, 1) := by decide +kernel
theorem dX9_plant_8 : decode cX9_plant 8 = .ok (.invokestatic 97, 3) := by decide +kernel
theorem dX9_plant_11 : decode cX9_plant 11 = .ok (.ifCond .eq 14, 3) := by decide +kernel
theorem dX9_plant_14 : decode cX9_plant 14 = .ok (.iload_n 3, 1) := by decide +kernel
theorem dX9_plant_15 : decode cX9_plant 15 = .ok (.iconst 1, 1) := by decide +kernel
theorem dX9_plant_16 : decode cX9_plant 16 = .ok (.sipush 200, 3) := by decide +kernel
theorem dX9_plant_19 : decode cX9_plant 19 = .ok (.invokestatic 85, 3) := by decide +kernel
theorem dX9_plant_22 : decode cX9_plant 22 = .ok (.ifCond .ne 13, 3) := by decide +kernel
theorem dX9_plant_25 : decode cX9_plant 25 = .ok (.new 89, 3) := by decide +kernel
theorem dX9_plant_28 : decode cX9_plant 28 = .ok (.dup, 1) := by decide +kernel
theorem dX9_plant_29 : decode cX9_plant 29 = .ok (.ldc 101, 2) := by decide +kernel
theorem dX9_plant_31 : decode cX9_plant 31 = .ok (.invokespecial 93, 3) := by decide +kernel
theorem dX9_plant_34 : decode cX9_plant 34 = .ok (.athrow, 1) := by decide +kernel
theorem dX9_plant_35 : decode cX9_plant 35 = .ok (.aload_n 0, 1) := by decide +kernel
theorem dX9_plant_36 : decode cX9_plant 36 = .ok (.getfield 16, 3) := by decide +kernel
theorem dX9_plant_39 : decode cX9_plant 39 = .ok (.invokevirtual 63, 3) := by decide +kernel
theorem dX9_plant_42 : decode cX9_plant 42 = .ok (.bipush 8, 2) := by decide +kernel
theorem dX9_plant_44 : decode cX9_plant 44 = .ok (.if_icmp .lt 13, 3) := by decide +kernel
theorem dX9_plant_47 : decode cX9_plant 47 = .ok (.new 67, 3) := by decide +kernel
theorem dX9_plant_50 : decode cX9_plant 50 = .ok (.dup, 1) := by decide +kernel
theorem dX9_plant_51 : decode cX9_plant 51 = .ok (.ldc 103, 2) := by decide +kernel
theorem dX9_plant_53 : decode cX9_plant 53 = .ok (.invokespecial 71, 3) := by decide +kernel
theorem dX9_plant_56 : decode cX9_plant 56 = .ok (.athrow, 1) := by decide +kernel
theorem dX9_plant_57 : decode cX9_plant 57 = .ok (.aload_n 0, 1) := by decide +kernel
theorem dX9_plant_58 : decode cX9_plant 58 = .ok (.getfield 16, 3) := by decide +kernel
theorem dX9_plant_61 : decode cX9_plant 61 = .ok (.new 105, 3) := by decide +kernel
theorem dX9_plant_64 : decode cX9_plant 64 = .ok (.dup, 1) := by decide +kernel
theorem dX9_plant_65 : decode cX9_plant 65 = .ok (.aload 4, 2) := by decide +kernel
theorem dX9_plant_67 : decode cX9_plant 67 = .ok (.iload_n 1, 1) := by decide +kernel
theorem dX9_plant_68 : decode cX9_plant 68 = .ok (.iload_n 2, 1) := by decide +kernel
theorem dX9_plant_69 : decode cX9_plant 69 = .ok (.iload_n 3, 1) := by decide +kernel
theorem dX9_plant_70 : decode cX9_plant 70 = .ok (.invokespecial 107, 3) := by decide +kernel
theorem dX9_plant_73 : decode cX9_plant 73 = .ok (.invokevirtual 77, 3) := by decide +kernel
theorem dX9_plant_76 : decode cX9_plant 76 = .ok (.pop, 1) := by decide +kernel
theorem dX9_plant_77 : decode cX9_plant 77 = .ok (.aload_n 0, 1) := by decide +kernel
theorem dX9_plant_78 : decode cX9_plant 78 = .ok (.getfield 16, 3) := by decide +kernel
theorem dX9_plant_81 : decode cX9_plant 81 = .ok (.invokevirtual 63, 3) := by decide +kernel
theorem dX9_plant_84 : decode cX9_plant 84 = .ok (.iconst 1, 1) := by decide +kernel
theorem dX9_plant_85 : decode cX9_plant 85 = .ok (.isub, 1) := by decide +kernel
theorem dX9_plant_86 : decode cX9_plant 86 = .ok (.ireturn, 1) := by decide +kernel
theorem dX9_cut_0 : decode cX9_cut 0 = .ok (.aload_n 0, 1) := by decide +kernel
theorem dX9_cut_1 : decode cX9_cut 1 = .ok (.iload_n 1, 1) := by decide +kernel
theorem dX9_cut_2 : decode cX9_cut 2 = .ok (.invokevirtual 110, 3) := by decide +kernel
theorem dX9_cut_5 : decode cX9_cut 5 = .ok (.astore_n 3, 1) := by decide +kernel
theorem dX9_cut_6 : decode cX9_cut 6 = .ok (.iload_n 2, 1) := by decide +kernel
theorem dX9_cut_7 : decode cX9_cut 7 = .ok (.iconst 1, 1) := by decide +kernel
theorem dX9_cut_8 : decode cX9_cut 8 = .ok (.if_icmp .ge 13, 3) := by decide +kernel
theorem dX9_cut_11 : decode cX9_cut 11 = .ok (.new 89, 3) := by decide +kernel
theorem dX9_cut_14 : decode cX9_cut 14 = .ok (.dup, 1) := by decide +kernel
theorem dX9_cut_15 : decode cX9_cut 15 = .ok (.ldc 114, 2) := by decide +kernel
theorem dX9_cut_17 : decode cX9_cut 17 = .ok (.invokespecial 93, 3) := by decide +kernel
theorem dX9_cut_20 : decode cX9_cut 20 = .ok (.athrow, 1) := by decide +kernel
theorem dX9_cut_21 : decode cX9_cut 21 = .ok (.aload_n 3, 1) := by decide +kernel
theorem dX9_cut_22 : decode cX9_cut 22 = .ok (.getfield 116, 3) := by decide +kernel
theorem dX9_cut_25 : decode cX9_cut 25 = .ok (.ifCond .eq 34, 3) := by decide +kernel
theorem dX9_cut_28 : decode cX9_cut 28 = .ok (.iload_n 2, 1) := by decide +kernel
theorem dX9_cut_29 : decode cX9_cut 29 = .ok (.aload_n 3, 1) := by decide +kernel
theorem dX9_cut_30 : decode cX9_cut 30 = .ok (.getfield 120, 3) := by decide +kernel
theorem dX9_cut_33 : decode cX9_cut 33 = .ok (.if_icmp .gt 26, 3) := by decide +kernel
theorem dX9_cut_36 : decode cX9_cut 36 = .ok (.aload_n 0, 1) := by decide +kernel
theorem dX9_cut_37 : decode cX9_cut 37 = .ok (.getfield 19, 3) := by decide +kernel
theorem dX9_cut_40 : decode cX9_cut 40 = .ok (.invokevirtual 63, 3) := by decide +kernel
theorem dX9_cut_43 : decode cX9_cut 43 = .ok (.bipush 16, 2) := by decide +kernel
theorem dX9_cut_45 : decode cX9_cut 45 = .ok (.if_icmp .ge 14, 3) := by decide +kernel
theorem dX9_cut_48 : decode cX9_cut 48 = .ok (.iload_n 2, 1) := by decide +kernel
theorem dX9_cut_49 : decode cX9_cut 49 = .ok (.invokestatic 123, 3) := by decide +kernel
theorem dX9_cut_52 : decode cX9_cut 52 = .ok (.aload_n 0, 1) := by decide +kernel
theorem dX9_cut_53 : decode cX9_cut 53 = .ok (.getfield 57, 3) := by decide +kernel
theorem dX9_cut_56 : decode cX9_cut 56 = .ok (.if_icmp .le 13, 3) := by decide +kernel
theorem dX9_cut_59 : decode cX9_cut 59 = .ok (.new 67, 3) := by decide +kernel
theorem dX9_cut_62 : decode cX9_cut 62 = .ok (.dup, 1) := by decide +kernel
theorem dX9_cut_63 : decode cX9_cut 63 = .ok (.ldc 127, 2) := by decide +kernel
theorem dX9_cut_65 : decode cX9_cut 65 = .ok (.invokespecial 71, 3) := by decide +kernel
theorem dX9_cut_68 : decode cX9_cut 68 = .ok (.athrow, 1) := by decide +kernel
theorem dX9_cut_69 : decode cX9_cut 69 = .ok (.new 129, 3) := by decide +kernel
theorem dX9_cut_72 : decode cX9_cut 72 = .ok (.dup, 1) := by decide +kernel
theorem dX9_cut_73 : decode cX9_cut 73 = .ok (.aload_n 0, 1) := by decide +kernel
theorem dX9_cut_74 : decode cX9_cut 74 = .ok (.getfield 19, 3) := by decide +kernel
theorem dX9_cut_77 : decode cX9_cut 77 = .ok (.invokevirtual 63, 3) := by decide +kernel
theorem dX9_cut_80 : decode cX9_cut 80 = .ok (.aload_n 3, 1) := by decide +kernel
theorem dX9_cut_81 : decode cX9_cut 81 = .ok (.iload_n 2, 1) := by decide +kernel
theorem dX9_cut_82 : decode cX9_cut 82 = .ok (.iload_n 2, 1) := by decide +kernel
theorem dX9_cut_83 : decode cX9_cut 83 = .ok (.invokestatic 123, 3) := by decide +kernel
theorem dX9_cut_86 : decode cX9_cut 86 = .ok (.invokespecial 131, 3) := by decide +kernel
theorem dX9_cut_89 : decode cX9_cut 89 = .ok (.astore 4, 2) := by decide +kernel
theorem dX9_cut_91 : decode cX9_cut 91 = .ok (.aload_n 3, 1) := by decide +kernel
theorem dX9_cut_92 : decode cX9_cut 92 = .ok (.dup, 1) := by decide +kernel
theorem dX9_cut_93 : decode cX9_cut 93 = .ok (.getfield 120, 3) := by decide +kernel
theorem dX9_cut_96 : decode cX9_cut 96 = .ok (.iload_n 2, 1) := by decide +kernel
theorem dX9_cut_97 : decode cX9_cut 97 = .ok (.isub, 1) := by decide +kernel
theorem dX9_cut_98 : decode cX9_cut 98 = .ok (.putfield 120, 3) := by decide +kernel
theorem dX9_cut_101 : decode cX9_cut 101 = .ok (.aload_n 0, 1) := by decide +kernel
theorem dX9_cut_102 : decode cX9_cut 102 = .ok (.dup, 1) := by decide +kernel
theorem dX9_cut_103 : decode cX9_cut 103 = .ok (.getfield 57, 3) := by decide +kernel
theorem dX9_cut_106 : decode cX9_cut 106 = .ok (.aload 4, 2) := by decide +kernel
theorem dX9_cut_108 : decode cX9_cut 108 = .ok (.getfield 134, 3) := by decide +kernel
theorem dX9_cut_111 : decode cX9_cut 111 = .ok (.isub, 1) := by decide +kernel
theorem dX9_cut_112 : decode cX9_cut 112 = .ok (.putfield 57, 3) := by decide +kernel
theorem dX9_cut_115 : decode cX9_cut 115 = .ok (.aload_n 0, 1) := by decide +kernel
theorem dX9_cut_116 : decode cX9_cut 116 = .ok (.getfield 19, 3) := by decide +kernel
theorem dX9_cut_119 : decode cX9_cut 119 = .ok (.aload 4, 2) := by decide +kernel
theorem dX9_cut_121 : decode cX9_cut 121 = .ok (.invokevirtual 77, 3) := by decide +kernel
theorem dX9_cut_124 : decode cX9_cut 124 = .ok (.pop, 1) := by decide +kernel
theorem dX9_cut_125 : decode cX9_cut 125 = .ok (.aload 4, 2) := by decide +kernel
theorem dX9_cut_127 : decode cX9_cut 127 = .ok (.getfield 137, 3) := by decide +kernel
theorem dX9_cut_130 : decode cX9_cut 130 = .ok (.ireturn, 1) := by decide +kernel
theorem dX9_pass_0 : decode cX9_pass 0 = .ok (.iload_n 1, 1) := by decide +kernel
theorem dX9_pass_1 : decode cX9_pass 1 = .ok (.iconst 1, 1) := by decide +kernel
theorem dX9_pass_2 : decode cX9_pass 2 = .ok (.bipush 48, 2) := by decide +kernel
theorem dX9_pass_4 : decode cX9_pass 4 = .ok (.invokestatic 85, 3) := by decide +kernel
theorem dX9_pass_7 : decode cX9_pass 7 = .ok (.ifCond .eq 13, 3) := by decide +kernel
theorem dX9_pass_10 : decode cX9_pass 10 = .ok (.iload_n 2, 1) := by decide +kernel
theorem dX9_pass_11 : decode cX9_pass 11 = .ok (.iconst 0, 1) := by decide +kernel
theorem dX9_pass_12 : decode cX9_pass 12 = .ok (.bipush 9, 2) := by decide +kernel
theorem dX9_pass_14 : decode cX9_pass 14 = .ok (.invokestatic 85, 3) := by decide +kernel
theorem dX9_pass_17 : decode cX9_pass 17 = .ok (.ifCond .ne 13, 3) := by decide +kernel
theorem dX9_pass_20 : decode cX9_pass 20 = .ok (.new 89, 3) := by decide +kernel
theorem dX9_pass_23 : decode cX9_pass 23 = .ok (.dup, 1) := by decide +kernel
theorem dX9_pass_24 : decode cX9_pass 24 = .ok (.ldc 154, 2) := by decide +kernel
theorem dX9_pass_26 : decode cX9_pass 26 = .ok (.invokespecial 93, 3) := by decide +kernel
theorem dX9_pass_29 : decode cX9_pass 29 = .ok (.athrow, 1) := by decide +kernel
theorem dX9_pass_30 : decode cX9_pass 30 = .ok (.aload_n 0, 1) := by decide +kernel
theorem dX9_pass_31 : decode cX9_pass 31 = .ok (.iload_n 2, 1) := by decide +kernel
theorem dX9_pass_32 : decode cX9_pass 32 = .ok (.putfield 53, 3) := by decide +kernel
theorem dX9_pass_35 : decode cX9_pass 35 = .ok (.iconst 0, 1) := by decide +kernel
theorem dX9_pass_36 : decode cX9_pass 36 = .ok (.istore_n 3, 1) := by decide +kernel
theorem dX9_pass_37 : decode cX9_pass 37 = .ok (.iconst 0, 1) := by decide +kernel
theorem dX9_pass_38 : decode cX9_pass 38 = .ok (.istore 4, 2) := by decide +kernel
theorem dX9_pass_40 : decode cX9_pass 40 = .ok (.iload 4, 2) := by decide +kernel
theorem dX9_pass_42 : decode cX9_pass 42 = .ok (.iload_n 1, 1) := by decide +kernel
theorem dX9_pass_43 : decode cX9_pass 43 = .ok (.if_icmp .ge 16, 3) := by decide +kernel
theorem dX9_pass_46 : decode cX9_pass 46 = .ok (.iload_n 3, 1) := by decide +kernel
theorem dX9_pass_47 : decode cX9_pass 47 = .ok (.aload_n 0, 1) := by decide +kernel
theorem dX9_pass_48 : decode cX9_pass 48 = .ok (.invokevirtual 156, 3) := by decide +kernel
theorem dX9_pass_51 : decode cX9_pass 51 = .ok (.iadd, 1) := by decide +kernel
theorem dX9_pass_52 : decode cX9_pass 52 = .ok (.istore_n 3, 1) := by decide +kernel
theorem dX9_pass_53 : decode cX9_pass 53 = .ok (.iinc 4 1, 3) := by decide +kernel
theorem dX9_pass_56 : decode cX9_pass 56 = .ok (.goto (-16), 3) := by decide +kernel
theorem dX9_pass_59 : decode cX9_pass 59 = .ok (.iload_n 3, 1) := by decide +kernel
theorem dX9_pass_60 : decode cX9_pass 60 = .ok (.ireturn, 1) := by decide +kernel
theorem dX9_bring_0 : decode cX9_bring 0 = .ok (.aload_n 0, 1) := by decide +kernel
theorem dX9_bring_1 : decode cX9_bring 1 = .ok (.iload_n 1, 1) := by decide +kernel
theorem dX9_bring_2 : decode cX9_bring 2 = .ok (.invokevirtual 140, 3) := by decide +kernel
theorem dX9_bring_5 : decode cX9_bring 5 = .ok (.astore 4, 2) := by decide +kernel
theorem dX9_bring_7 : decode cX9_bring 7 = .ok (.iload_n 2, 1) := by decide +kernel
theorem dX9_bring_8 : decode cX9_bring 8 = .ok (.iconst 0, 1) := by decide +kernel
theorem dX9_bring_9 : decode cX9_bring 9 = .ok (.bipush 110, 2) := by decide +kernel
theorem dX9_bring_11 : decode cX9_bring 11 = .ok (.invokestatic 85, 3) := by decide +kernel
theorem dX9_bring_14 : decode cX9_bring 14 = .ok (.ifCond .eq 13, 3) := by decide +kernel
theorem dX9_bring_17 : decode cX9_bring 17 = .ok (.iload_n 3, 1) := by decide +kernel
theorem dX9_bring_18 : decode cX9_bring 18 = .ok (.iconst 1, 1) := by decide +kernel
theorem dX9_bring_19 : decode cX9_bring 19 = .ok (.bipush 99, 2) := by decide +kernel
theorem dX9_bring_21 : decode cX9_bring 21 = .ok (.invokestatic 85, 3) := by decide +kernel
theorem dX9_bring_24 : decode cX9_bring 24 = .ok (.ifCond .ne 13, 3) := by decide +kernel
theorem dX9_bring_27 : decode cX9_bring 27 = .ok (.new 89, 3) := by decide +kernel
theorem dX9_bring_30 : decode cX9_bring 30 = .ok (.dup, 1) := by decide +kernel
theorem dX9_bring_31 : decode cX9_bring 31 = .ok (.ldc 159, 2) := by decide +kernel
theorem dX9_bring_33 : decode cX9_bring 33 = .ok (.invokespecial 93, 3) := by decide +kernel
theorem dX9_bring_36 : decode cX9_bring 36 = .ok (.athrow, 1) := by decide +kernel
theorem dX9_bring_37 : decode cX9_bring 37 = .ok (.aload 4, 2) := by decide +kernel
theorem dX9_bring_39 : decode cX9_bring 39 = .ok (.getfield 161, 3) := by decide +kernel
theorem dX9_bring_42 : decode cX9_bring 42 = .ok (.getfield 165, 3) := by decide +kernel
theorem dX9_bring_45 : decode cX9_bring 45 = .ok (.astore 5, 2) := by decide +kernel
theorem dX9_bring_47 : decode cX9_bring 47 = .ok (.aload 5, 2) := by decide +kernel
theorem dX9_bring_49 : decode cX9_bring 49 = .ok (.aload 4, 2) := by decide +kernel
theorem dX9_bring_51 : decode cX9_bring 51 = .ok (.getfield 168, 3) := by decide +kernel
theorem dX9_bring_54 : decode cX9_bring 54 = .ok (.invokevirtual 171, 3) := by decide +kernel
theorem dX9_bring_57 : decode cX9_bring 57 = .ok (.aload 4, 2) := by decide +kernel
theorem dX9_bring_59 : decode cX9_bring 59 = .ok (.getfield 174, 3) := by decide +kernel
theorem dX9_bring_62 : decode cX9_bring 62 = .ok (.iadd, 1) := by decide +kernel
theorem dX9_bring_63 : decode cX9_bring 63 = .ok (.istore 6, 2) := by decide +kernel
theorem dX9_bring_65 : decode cX9_bring 65 = .ok (.aload 4, 2) := by decide +kernel
theorem dX9_bring_67 : decode cX9_bring 67 = .ok (.getfield 146, 3) := by decide +kernel
theorem dX9_bring_70 : decode cX9_bring 70 = .ok (.ifCond .ne 20, 3) := by decide +kernel
theorem dX9_bring_73 : decode cX9_bring 73 = .ok (.iload 6, 2) := by decide +kernel
theorem dX9_bring_75 : decode cX9_bring 75 = .ok (.aload_n 0, 1) := by decide +kernel
theorem dX9_bring_76 : decode cX9_bring 76 = .ok (.getfield 42, 3) := by decide +kernel
theorem dX9_bring_79 : decode cX9_bring 79 = .ok (.aload 4, 2) := by decide +kernel
theorem dX9_bring_81 : decode cX9_bring 81 = .ok (.getfield 168, 3) := by decide +kernel
theorem dX9_bring_84 : decode cX9_bring 84 = .ok (.invokevirtual 171, 3) := by decide +kernel
theorem dX9_bring_87 : decode cX9_bring 87 = .ok (.if_icmp .le 13, 3) := by decide +kernel
theorem dX9_bring_90 : decode cX9_bring 90 = .ok (.new 67, 3) := by decide +kernel
theorem dX9_bring_93 : decode cX9_bring 93 = .ok (.dup, 1) := by decide +kernel
theorem dX9_bring_94 : decode cX9_bring 94 = .ok (.ldc 177, 2) := by decide +kernel
theorem dX9_bring_96 : decode cX9_bring 96 = .ok (.invokespecial 71, 3) := by decide +kernel
theorem dX9_bring_99 : decode cX9_bring 99 = .ok (.athrow, 1) := by decide +kernel
theorem dX9_bring_100 : decode cX9_bring 100 = .ok (.aload 5, 2) := by decide +kernel
theorem dX9_bring_102 : decode cX9_bring 102 = .ok (.aload 4, 2) := by decide +kernel
theorem dX9_bring_104 : decode cX9_bring 104 = .ok (.getfield 168, 3) := by decide +kernel
theorem dX9_bring_107 : decode cX9_bring 107 = .ok (.iload 6, 2) := by decide +kernel
theorem dX9_bring_109 : decode cX9_bring 109 = .ok (.invokevirtual 179, 3) := by decide +kernel
theorem dX9_bring_112 : decode cX9_bring 112 = .ok (.aload 4, 2) := by decide +kernel
theorem dX9_bring_114 : decode cX9_bring 114 = .ok (.iload_n 2, 1) := by decide +kernel
theorem dX9_bring_115 : decode cX9_bring 115 = .ok (.putfield 183, 3) := by decide +kernel
theorem dX9_bring_118 : decode cX9_bring 118 = .ok (.aload 4, 2) := by decide +kernel
theorem dX9_bring_120 : decode cX9_bring 120 = .ok (.iload_n 3, 1) := by decide +kernel
theorem dX9_bring_121 : decode cX9_bring 121 = .ok (.putfield 186, 3) := by decide +kernel
theorem dX9_bring_124 : decode cX9_bring 124 = .ok (.aload 4, 2) := by decide +kernel
theorem dX9_bring_126 : decode cX9_bring 126 = .ok (.iconst 1, 1) := by decide +kernel
theorem dX9_bring_127 : decode cX9_bring 127 = .ok (.putfield 146, 3) := by decide +kernel
theorem dX9_bring_130 : decode cX9_bring 130 = .ok (.aload_n 0, 1) := by decide +kernel
theorem dX9_bring_131 : decode cX9_bring 131 = .ok (.getfield 22, 3) := by decide +kernel
theorem dX9_bring_134 : decode cX9_bring 134 = .ok (.aload 4, 2) := by decide +kernel
theorem dX9_bring_136 : decode cX9_bring 136 = .ok (.invokevirtual 77, 3) := by decide +kernel
theorem dX9_bring_139 : decode cX9_bring 139 = .ok (.pop, 1) := by decide +kernel
theorem dX9_bring_140 : decode cX9_bring 140 = .ok (.aload_n 0, 1) := by decide +kernel
theorem dX9_bring_141 : decode cX9_bring 141 = .ok (.getfield 22, 3) := by decide +kernel
theorem dX9_bring_144 : decode cX9_bring 144 = .ok (.invokevirtual 63, 3) := by decide +kernel
theorem dX9_bring_147 : decode cX9_bring 147 = .ok (.ireturn, 1) := by decide +kernel
theorem dX9_inspect_0 : decode cX9_inspect 0 = .ok (.aload_n 0, 1) := by decide +kernel
theorem dX9_inspect_1 : decode cX9_inspect 1 = .ok (.iload_n 1, 1) := by decide +kernel
theorem dX9_inspect_2 : decode cX9_inspect 2 = .ok (.invokevirtual 140, 3) := by decide +kernel
theorem dX9_inspect_5 : decode cX9_inspect 5 = .ok (.astore_n 2, 1) := by decide +kernel
theorem dX9_inspect_6 : decode cX9_inspect 6 = .ok (.aload_n 2, 1) := by decide +kernel
theorem dX9_inspect_7 : decode cX9_inspect 7 = .ok (.getfield 146, 3) := by decide +kernel
theorem dX9_inspect_10 : decode cX9_inspect 10 = .ok (.iconst 1, 1) := by decide +kernel
theorem dX9_inspect_11 : decode cX9_inspect 11 = .ok (.if_icmp .eq 13, 3) := by decide +kernel
theorem dX9_inspect_14 : decode cX9_inspect 14 = .ok (.new 67, 3) := by decide +kernel
theorem dX9_inspect_17 : decode cX9_inspect 17 = .ok (.dup, 1) := by decide +kernel
theorem dX9_inspect_18 : decode cX9_inspect 18 = .ok (.ldc 189, 2) := by decide +kernel
theorem dX9_inspect_20 : decode cX9_inspect 20 = .ok (.invokespecial 71, 3) := by decide +kernel
theorem dX9_inspect_23 : decode cX9_inspect 23 = .ok (.athrow, 1) := by decide +kernel
theorem dX9_inspect_24 : decode cX9_inspect 24 = .ok (.aload_n 2, 1) := by decide +kernel
theorem dX9_inspect_25 : decode cX9_inspect 25 = .ok (.getfield 161, 3) := by decide +kernel
theorem dX9_inspect_28 : decode cX9_inspect 28 = .ok (.astore_n 3, 1) := by decide +kernel
theorem dX9_inspect_29 : decode cX9_inspect 29 = .ok (.aload_n 2, 1) := by decide +kernel
theorem dX9_inspect_30 : decode cX9_inspect 30 = .ok (.getfield 183, 3) := by decide +kernel
theorem dX9_inspect_33 : decode cX9_inspect 33 = .ok (.aload_n 2, 1) := by decide +kernel
theorem dX9_inspect_34 : decode cX9_inspect 34 = .ok (.getfield 191, 3) := by decide +kernel
theorem dX9_inspect_37 : decode cX9_inspect 37 = .ok (.if_icmp .le 29, 3) := by decide +kernel
theorem dX9_inspect_40 : decode cX9_inspect 40 = .ok (.aload_n 3, 1) := by decide +kernel
theorem dX9_inspect_41 : decode cX9_inspect 41 = .ok (.iconst 0, 1) := by decide +kernel
theorem dX9_inspect_42 : decode cX9_inspect 42 = .ok (.aload_n 3, 1) := by decide +kernel
theorem dX9_inspect_43 : decode cX9_inspect 43 = .ok (.getfield 194, 3) := by decide +kernel
theorem dX9_inspect_46 : decode cX9_inspect 46 = .ok (.bipush 10, 2) := by decide +kernel
theorem dX9_inspect_48 : decode cX9_inspect 48 = .ok (.isub, 1) := by decide +kernel
theorem dX9_inspect_49 : decode cX9_inspect 49 = .ok (.invokestatic 197, 3) := by decide +kernel
theorem dX9_inspect_52 : decode cX9_inspect 52 = .ok (.putfield 194, 3) := by decide +kernel
theorem dX9_inspect_55 : decode cX9_inspect 55 = .ok (.aload_n 2, 1) := by decide +kernel
theorem dX9_inspect_56 : decode cX9_inspect 56 = .ok (.aload_n 2, 1) := by decide +kernel
theorem dX9_inspect_57 : decode cX9_inspect 57 = .ok (.getfield 191, 3) := by decide +kernel
theorem dX9_inspect_60 : decode cX9_inspect 60 = .ok (.putfield 183, 3) := by decide +kernel
theorem dX9_inspect_63 : decode cX9_inspect 63 = .ok (.goto 18, 3) := by decide +kernel
theorem dX9_inspect_66 : decode cX9_inspect 66 = .ok (.aload_n 3, 1) := by decide +kernel
theorem dX9_inspect_67 : decode cX9_inspect 67 = .ok (.bipush 100, 2) := by decide +kernel
theorem dX9_inspect_69 : decode cX9_inspect 69 = .ok (.aload_n 3, 1) := by decide +kernel
theorem dX9_inspect_70 : decode cX9_inspect 70 = .ok (.getfield 194, 3) := by decide +kernel
theorem dX9_inspect_73 : decode cX9_inspect 73 = .ok (.iconst 2, 1) := by decide +kernel
theorem dX9_inspect_74 : decode cX9_inspect 74 = .ok (.iadd, 1) := by decide +kernel
theorem dX9_inspect_75 : decode cX9_inspect 75 = .ok (.invokestatic 203, 3) := by decide +kernel
theorem dX9_inspect_78 : decode cX9_inspect 78 = .ok (.putfield 194, 3) := by decide +kernel
theorem dX9_inspect_81 : decode cX9_inspect 81 = .ok (.aload_n 3, 1) := by decide +kernel
theorem dX9_inspect_82 : decode cX9_inspect 82 = .ok (.getfield 194, 3) := by decide +kernel
theorem dX9_inspect_85 : decode cX9_inspect 85 = .ok (.ireturn, 1) := by decide +kernel
theorem dX9_buyer_0 : decode cX9_buyer 0 = .ok (.iload_n 1, 1) := by decide +kernel
theorem dX9_buyer_1 : decode cX9_buyer 1 = .ok (.iconst 0, 1) := by decide +kernel
theorem dX9_buyer_2 : decode cX9_buyer 2 = .ok (.bipush 9, 2) := by decide +kernel
theorem dX9_buyer_4 : decode cX9_buyer 4 = .ok (.invokestatic 85, 3) := by decide +kernel
theorem dX9_buyer_7 : decode cX9_buyer 7 = .ok (.ifCond .ne 13, 3) := by decide +kernel
theorem dX9_buyer_10 : decode cX9_buyer 10 = .ok (.new 89, 3) := by decide +kernel
theorem dX9_buyer_13 : decode cX9_buyer 13 = .ok (.dup, 1) := by decide +kernel
theorem dX9_buyer_14 : decode cX9_buyer 14 = .ok (.ldc 206, 2) := by decide +kernel
theorem dX9_buyer_16 : decode cX9_buyer 16 = .ok (.invokespecial 93, 3) := by decide +kernel
theorem dX9_buyer_19 : decode cX9_buyer 19 = .ok (.athrow, 1) := by decide +kernel
theorem dX9_buyer_20 : decode cX9_buyer 20 = .ok (.aload_n 0, 1) := by decide +kernel
theorem dX9_buyer_21 : decode cX9_buyer 21 = .ok (.getfield 25, 3) := by decide +kernel
theorem dX9_buyer_24 : decode cX9_buyer 24 = .ok (.invokevirtual 63, 3) := by decide +kernel
theorem dX9_buyer_27 : decode cX9_buyer 27 = .ok (.iconst 4, 1) := by decide +kernel
theorem dX9_buyer_28 : decode cX9_buyer 28 = .ok (.if_icmp .lt 13, 3) := by decide +kernel
theorem dX9_buyer_31 : decode cX9_buyer 31 = .ok (.new 67, 3) := by decide +kernel
theorem dX9_buyer_34 : decode cX9_buyer 34 = .ok (.dup, 1) := by decide +kernel
theorem dX9_buyer_35 : decode cX9_buyer 35 = .ok (.ldc 208, 2) := by decide +kernel
theorem dX9_buyer_37 : decode cX9_buyer 37 = .ok (.invokespecial 71, 3) := by decide +kernel
theorem dX9_buyer_40 : decode cX9_buyer 40 = .ok (.athrow, 1) := by decide +kernel
theorem dX9_buyer_41 : decode cX9_buyer 41 = .ok (.aload_n 0, 1) := by decide +kernel
theorem dX9_buyer_42 : decode cX9_buyer 42 = .ok (.getfield 25, 3) := by decide +kernel
theorem dX9_buyer_45 : decode cX9_buyer 45 = .ok (.new 210, 3) := by decide +kernel
theorem dX9_buyer_48 : decode cX9_buyer 48 = .ok (.dup, 1) := by decide +kernel
theorem dX9_buyer_49 : decode cX9_buyer 49 = .ok (.aload_n 0, 1) := by decide +kernel
theorem dX9_buyer_50 : decode cX9_buyer 50 = .ok (.getfield 25, 3) := by decide +kernel
theorem dX9_buyer_53 : decode cX9_buyer 53 = .ok (.invokevirtual 63, 3) := by decide +kernel
theorem dX9_buyer_56 : decode cX9_buyer 56 = .ok (.iload_n 1, 1) := by decide +kernel
theorem dX9_buyer_57 : decode cX9_buyer 57 = .ok (.invokespecial 212, 3) := by decide +kernel
theorem dX9_buyer_60 : decode cX9_buyer 60 = .ok (.invokevirtual 77, 3) := by decide +kernel
theorem dX9_buyer_63 : decode cX9_buyer 63 = .ok (.pop, 1) := by decide +kernel
theorem dX9_buyer_64 : decode cX9_buyer 64 = .ok (.aload_n 0, 1) := by decide +kernel
theorem dX9_buyer_65 : decode cX9_buyer 65 = .ok (.getfield 25, 3) := by decide +kernel
theorem dX9_buyer_68 : decode cX9_buyer 68 = .ok (.invokevirtual 63, 3) := by decide +kernel
theorem dX9_buyer_71 : decode cX9_buyer 71 = .ok (.iconst 1, 1) := by decide +kernel
theorem dX9_buyer_72 : decode cX9_buyer 72 = .ok (.isub, 1) := by decide +kernel
theorem dX9_buyer_73 : decode cX9_buyer 73 = .ok (.ireturn, 1) := by decide +kernel
theorem dX9_even_0 : decode cX9_even 0 = .ok (.aload_n 0, 1) := by decide +kernel
theorem dX9_even_1 : decode cX9_even 1 = .ok (.iload_n 1, 1) := by decide +kernel
theorem dX9_even_2 : decode cX9_even 2 = .ok (.invokevirtual 214, 3) := by decide +kernel
theorem dX9_even_5 : decode cX9_even 5 = .ok (.astore_n 3, 1) := by decide +kernel
theorem dX9_even_6 : decode cX9_even 6 = .ok (.iload_n 2, 1) := by decide +kernel
theorem dX9_even_7 : decode cX9_even 7 = .ok (.iconst 0, 1) := by decide +kernel
theorem dX9_even_8 : decode cX9_even 8 = .ok (.bipush 9, 2) := by decide +kernel
theorem dX9_even_10 : decode cX9_even 10 = .ok (.invokestatic 85, 3) := by decide +kernel
theorem dX9_even_13 : decode cX9_even 13 = .ok (.ifCond .ne 13, 3) := by decide +kernel
theorem dX9_even_16 : decode cX9_even 16 = .ok (.new 89, 3) := by decide +kernel
theorem dX9_even_19 : decode cX9_even 19 = .ok (.dup, 1) := by decide +kernel
theorem dX9_even_20 : decode cX9_even 20 = .ok (.ldc 218, 2) := by decide +kernel
theorem dX9_even_22 : decode cX9_even 22 = .ok (.invokespecial 93, 3) := by decide +kernel
theorem dX9_even_25 : decode cX9_even 25 = .ok (.athrow, 1) := by decide +kernel
theorem dX9_even_26 : decode cX9_even 26 = .ok (.aload_n 3, 1) := by decide +kernel
theorem dX9_even_27 : decode cX9_even 27 = .ok (.getfield 220, 3) := by decide +kernel
theorem dX9_even_30 : decode cX9_even 30 = .ok (.istore 4, 2) := by decide +kernel
theorem dX9_even_32 : decode cX9_even 32 = .ok (.aload_n 3, 1) := by decide +kernel
theorem dX9_even_33 : decode cX9_even 33 = .ok (.iload_n 2, 1) := by decide +kernel
theorem dX9_even_34 : decode cX9_even 34 = .ok (.putfield 220, 3) := by decide +kernel
theorem dX9_even_37 : decode cX9_even 37 = .ok (.iload 4, 2) := by decide +kernel
theorem dX9_even_39 : decode cX9_even 39 = .ok (.ireturn, 1) := by decide +kernel
theorem dX9_leave_0 : decode cX9_leave 0 = .ok (.aload_n 0, 1) := by decide +kernel
theorem dX9_leave_1 : decode cX9_leave 1 = .ok (.iload_n 1, 1) := by decide +kernel
theorem dX9_leave_2 : decode cX9_leave 2 = .ok (.invokevirtual 214, 3) := by decide +kernel
theorem dX9_leave_5 : decode cX9_leave 5 = .ok (.astore_n 3, 1) := by decide +kernel
theorem dX9_leave_6 : decode cX9_leave 6 = .ok (.iload_n 2, 1) := by decide +kernel
theorem dX9_leave_7 : decode cX9_leave 7 = .ok (.iconst (-1), 1) := by decide +kernel
theorem dX9_leave_8 : decode cX9_leave 8 = .ok (.sipush 9999, 3) := by decide +kernel
theorem dX9_leave_11 : decode cX9_leave 11 = .ok (.invokestatic 85, 3) := by decide +kernel
theorem dX9_leave_14 : decode cX9_leave 14 = .ok (.ifCond .ne 13, 3) := by decide +kernel
theorem dX9_leave_17 : decode cX9_leave 17 = .ok (.new 89, 3) := by decide +kernel
theorem dX9_leave_20 : decode cX9_leave 20 = .ok (.dup, 1) := by decide +kernel
theorem dX9_leave_21 : decode cX9_leave 21 = .ok (.ldc 223, 2) := by decide +kernel
theorem dX9_leave_23 : decode cX9_leave 23 = .ok (.invokespecial 93, 3) := by decide +kernel
theorem dX9_leave_26 : decode cX9_leave 26 = .ok (.athrow, 1) := by decide +kernel
theorem dX9_leave_27 : decode cX9_leave 27 = .ok (.aload_n 3, 1) := by decide +kernel
theorem dX9_leave_28 : decode cX9_leave 28 = .ok (.getfield 225, 3) := by decide +kernel
theorem dX9_leave_31 : decode cX9_leave 31 = .ok (.istore 4, 2) := by decide +kernel
theorem dX9_leave_33 : decode cX9_leave 33 = .ok (.aload_n 3, 1) := by decide +kernel
theorem dX9_leave_34 : decode cX9_leave 34 = .ok (.iload_n 2, 1) := by decide +kernel
theorem dX9_leave_35 : decode cX9_leave 35 = .ok (.putfield 225, 3) := by decide +kernel
theorem dX9_leave_38 : decode cX9_leave 38 = .ok (.iload 4, 2) := by decide +kernel
theorem dX9_leave_40 : decode cX9_leave 40 = .ok (.ireturn, 1) := by decide +kernel
theorem dX9_order_0 : decode cX9_order 0 = .ok (.aload_n 0, 1) := by decide +kernel
theorem dX9_order_1 : decode cX9_order 1 = .ok (.iload_n 1, 1) := by decide +kernel
theorem dX9_order_2 : decode cX9_order 2 = .ok (.invokevirtual 214, 3) := by decide +kernel
theorem dX9_order_5 : decode cX9_order 5 = .ok (.astore 8, 2) := by decide +kernel
theorem dX9_order_7 : decode cX9_order 7 = .ok (.iload_n 2, 1) := by decide +kernel
theorem dX9_order_8 : decode cX9_order 8 = .ok (.invokestatic 97, 3) := by decide +kernel
theorem dX9_order_11 : decode cX9_order 11 = .ok (.ifCond .eq 38, 3) := by decide +kernel
theorem dX9_order_14 : decode cX9_order 14 = .ok (.iload_n 3, 1) := by decide +kernel
theorem dX9_order_15 : decode cX9_order 15 = .ok (.iconst 0, 1) := by decide +kernel
theorem dX9_order_16 : decode cX9_order 16 = .ok (.iconst 2, 1) := by decide +kernel
theorem dX9_order_17 : decode cX9_order 17 = .ok (.invokestatic 85, 3) := by decide +kernel
theorem dX9_order_20 : decode cX9_order 20 = .ok (.ifCond .eq 29, 3) := by decide +kernel
theorem dX9_order_23 : decode cX9_order 23 = .ok (.iload 4, 2) := by decide +kernel
theorem dX9_order_25 : decode cX9_order 25 = .ok (.iconst 0, 1) := by decide +kernel
theorem dX9_order_26 : decode cX9_order 26 = .ok (.bipush 110, 2) := by decide +kernel
theorem dX9_order_28 : decode cX9_order 28 = .ok (.invokestatic 85, 3) := by decide +kernel
theorem dX9_order_31 : decode cX9_order 31 = .ok (.ifCond .eq 18, 3) := by decide +kernel
theorem dX9_order_34 : decode cX9_order 34 = .ok (.iload 5, 2) := by decide +kernel
theorem dX9_order_36 : decode cX9_order 36 = .ok (.iconst 0, 1) := by decide +kernel
theorem dX9_order_37 : decode cX9_order 37 = .ok (.bipush 100, 2) := by decide +kernel
theorem dX9_order_39 : decode cX9_order 39 = .ok (.invokestatic 85, 3) := by decide +kernel
theorem dX9_order_42 : decode cX9_order 42 = .ok (.ifCond .eq 7, 3) := by decide +kernel
theorem dX9_order_45 : decode cX9_order 45 = .ok (.iconst 1, 1) := by decide +kernel
theorem dX9_order_46 : decode cX9_order 46 = .ok (.goto 4, 3) := by decide +kernel
theorem dX9_order_49 : decode cX9_order 49 = .ok (.iconst 0, 1) := by decide +kernel
theorem dX9_order_50 : decode cX9_order 50 = .ok (.istore 9, 2) := by decide +kernel
theorem dX9_order_52 : decode cX9_order 52 = .ok (.iload 9, 2) := by decide +kernel
theorem dX9_order_54 : decode cX9_order 54 = .ok (.ifCond .eq 26, 3) := by decide +kernel
theorem dX9_order_57 : decode cX9_order 57 = .ok (.iload 6, 2) := by decide +kernel
theorem dX9_order_59 : decode cX9_order 59 = .ok (.iconst 1, 1) := by decide +kernel
theorem dX9_order_60 : decode cX9_order 60 = .ok (.bipush 99, 2) := by decide +kernel
theorem dX9_order_62 : decode cX9_order 62 = .ok (.invokestatic 85, 3) := by decide +kernel
theorem dX9_order_65 : decode cX9_order 65 = .ok (.ifCond .eq 15, 3) := by decide +kernel
theorem dX9_order_68 : decode cX9_order 68 = .ok (.iload 7, 2) := by decide +kernel
theorem dX9_order_70 : decode cX9_order 70 = .ok (.iconst 1, 1) := by decide +kernel
theorem dX9_order_71 : decode cX9_order 71 = .ok (.sipush 500, 3) := by decide +kernel
theorem dX9_order_74 : decode cX9_order 74 = .ok (.invokestatic 85, 3) := by decide +kernel
theorem dX9_order_77 : decode cX9_order 77 = .ok (.ifCond .ne 13, 3) := by decide +kernel
theorem dX9_order_80 : decode cX9_order 80 = .ok (.new 89, 3) := by decide +kernel
theorem dX9_order_83 : decode cX9_order 83 = .ok (.dup, 1) := by decide +kernel
theorem dX9_order_84 : decode cX9_order 84 = .ok (.ldc 228, 2) := by decide +kernel
theorem dX9_order_86 : decode cX9_order 86 = .ok (.invokespecial 93, 3) := by decide +kernel
theorem dX9_order_89 : decode cX9_order 89 = .ok (.athrow, 1) := by decide +kernel
theorem dX9_order_90 : decode cX9_order 90 = .ok (.aload_n 0, 1) := by decide +kernel
theorem dX9_order_91 : decode cX9_order 91 = .ok (.getfield 28, 3) := by decide +kernel
theorem dX9_order_94 : decode cX9_order 94 = .ok (.invokevirtual 63, 3) := by decide +kernel
theorem dX9_order_97 : decode cX9_order 97 = .ok (.bipush 12, 2) := by decide +kernel
theorem dX9_order_99 : decode cX9_order 99 = .ok (.if_icmp .lt 13, 3) := by decide +kernel
theorem dX9_order_102 : decode cX9_order 102 = .ok (.new 67, 3) := by decide +kernel
theorem dX9_order_105 : decode cX9_order 105 = .ok (.dup, 1) := by decide +kernel
theorem dX9_order_106 : decode cX9_order 106 = .ok (.ldc 230, 2) := by decide +kernel
theorem dX9_order_108 : decode cX9_order 108 = .ok (.invokespecial 71, 3) := by decide +kernel
theorem dX9_order_111 : decode cX9_order 111 = .ok (.athrow, 1) := by decide +kernel
theorem dX9_order_112 : decode cX9_order 112 = .ok (.aload_n 0, 1) := by decide +kernel
theorem dX9_order_113 : decode cX9_order 113 = .ok (.getfield 28, 3) := by decide +kernel
theorem dX9_order_116 : decode cX9_order 116 = .ok (.new 232, 3) := by decide +kernel
theorem dX9_order_119 : decode cX9_order 119 = .ok (.dup, 1) := by decide +kernel
theorem dX9_order_120 : decode cX9_order 120 = .ok (.aload 8, 2) := by decide +kernel
theorem dX9_order_122 : decode cX9_order 122 = .ok (.iload_n 2, 1) := by decide +kernel
theorem dX9_order_123 : decode cX9_order 123 = .ok (.iload_n 3, 1) := by decide +kernel
theorem dX9_order_124 : decode cX9_order 124 = .ok (.iload 4, 2) := by decide +kernel
theorem dX9_order_126 : decode cX9_order 126 = .ok (.iload 5, 2) := by decide +kernel
theorem dX9_order_128 : decode cX9_order 128 = .ok (.iload 6, 2) := by decide +kernel
theorem dX9_order_130 : decode cX9_order 130 = .ok (.iload 7, 2) := by decide +kernel
theorem dX9_order_132 : decode cX9_order 132 = .ok (.invokespecial 234, 3) := by decide +kernel
theorem dX9_order_135 : decode cX9_order 135 = .ok (.invokevirtual 77, 3) := by decide +kernel
theorem dX9_order_138 : decode cX9_order 138 = .ok (.pop, 1) := by decide +kernel
theorem dX9_order_139 : decode cX9_order 139 = .ok (.aload_n 0, 1) := by decide +kernel
theorem dX9_order_140 : decode cX9_order 140 = .ok (.getfield 28, 3) := by decide +kernel
theorem dX9_order_143 : decode cX9_order 143 = .ok (.invokevirtual 63, 3) := by decide +kernel
theorem dX9_order_146 : decode cX9_order 146 = .ok (.iconst 1, 1) := by decide +kernel
theorem dX9_order_147 : decode cX9_order 147 = .ok (.isub, 1) := by decide +kernel
theorem dX9_order_148 : decode cX9_order 148 = .ok (.ireturn, 1) := by decide +kernel
theorem dX9_clock_0 : decode cX9_clock 0 = .ok (.aload_n 0, 1) := by decide +kernel
theorem dX9_clock_1 : decode cX9_clock 1 = .ok (.getfield 22, 3) := by decide +kernel
theorem dX9_clock_4 : decode cX9_clock 4 = .ok (.invokevirtual 237, 3) := by decide +kernel
theorem dX9_clock_7 : decode cX9_clock 7 = .ok (.ifCond .eq 13, 3) := by decide +kernel
theorem dX9_clock_10 : decode cX9_clock 10 = .ok (.new 67, 3) := by decide +kernel
theorem dX9_clock_13 : decode cX9_clock 13 = .ok (.dup, 1) := by decide +kernel
theorem dX9_clock_14 : decode cX9_clock 14 = .ok (.ldc 241, 2) := by decide +kernel
theorem dX9_clock_16 : decode cX9_clock 16 = .ok (.invokespecial 71, 3) := by decide +kernel
theorem dX9_clock_19 : decode cX9_clock 19 = .ok (.athrow, 1) := by decide +kernel
theorem dX9_clock_20 : decode cX9_clock 20 = .ok (.aload_n 0, 1) := by decide +kernel
theorem dX9_clock_21 : decode cX9_clock 21 = .ok (.getfield 22, 3) := by decide +kernel
theorem dX9_clock_24 : decode cX9_clock 24 = .ok (.iconst 0, 1) := by decide +kernel
theorem dX9_clock_25 : decode cX9_clock 25 = .ok (.invokevirtual 243, 3) := by decide +kernel
theorem dX9_clock_28 : decode cX9_clock 28 = .ok (.checkcast 129, 3) := by decide +kernel
theorem dX9_clock_31 : decode cX9_clock 31 = .ok (.astore_n 1, 1) := by decide +kernel
theorem dX9_clock_32 : decode cX9_clock 32 = .ok (.aload_n 1, 1) := by decide +kernel
theorem dX9_clock_33 : decode cX9_clock 33 = .ok (.getfield 174, 3) := by decide +kernel
theorem dX9_clock_36 : decode cX9_clock 36 = .ok (.istore_n 2, 1) := by decide +kernel
theorem dX9_clock_37 : decode cX9_clock 37 = .ok (.aload_n 0, 1) := by decide +kernel
theorem dX9_clock_38 : decode cX9_clock 38 = .ok (.getfield 49, 3) := by decide +kernel
theorem dX9_clock_41 : decode cX9_clock 41 = .ok (.aload_n 1, 1) := by decide +kernel
theorem dX9_clock_42 : decode cX9_clock 42 = .ok (.aload_n 1, 1) := by decide +kernel
theorem dX9_clock_43 : decode cX9_clock 43 = .ok (.getfield 183, 3) := by decide +kernel
theorem dX9_clock_46 : decode cX9_clock 46 = .ok (.aload_n 1, 1) := by decide +kernel
theorem dX9_clock_47 : decode cX9_clock 47 = .ok (.getfield 186, 3) := by decide +kernel
theorem dX9_clock_50 : decode cX9_clock 50 = .ok (.aload_n 0, 1) := by decide +kernel
theorem dX9_clock_51 : decode cX9_clock 51 = .ok (.getfield 25, 3) := by decide +kernel
theorem dX9_clock_54 : decode cX9_clock 54 = .ok (.aload_n 0, 1) := by decide +kernel
theorem dX9_clock_55 : decode cX9_clock 55 = .ok (.getfield 28, 3) := by decide +kernel
theorem dX9_clock_58 : decode cX9_clock 58 = .ok (.invokevirtual 247, 3) := by decide +kernel
theorem dX9_clock_61 : decode cX9_clock 61 = .ok (.aload_n 0, 1) := by decide +kernel
theorem dX9_clock_62 : decode cX9_clock 62 = .ok (.getfield 49, 3) := by decide +kernel
theorem dX9_clock_65 : decode cX9_clock 65 = .ok (.aload_n 0, 1) := by decide +kernel
theorem dX9_clock_66 : decode cX9_clock 66 = .ok (.getfield 28, 3) := by decide +kernel
theorem dX9_clock_69 : decode cX9_clock 69 = .ok (.invokevirtual 251, 3) := by decide +kernel
theorem dX9_clock_72 : decode cX9_clock 72 = .ok (.astore_n 3, 1) := by decide +kernel
theorem dX9_clock_73 : decode cX9_clock 73 = .ok (.iconst 0, 1) := by decide +kernel
theorem dX9_clock_74 : decode cX9_clock 74 = .ok (.istore 4, 2) := by decide +kernel
theorem dX9_clock_76 : decode cX9_clock 76 = .ok (.iload 4, 2) := by decide +kernel
theorem dX9_clock_78 : decode cX9_clock 78 = .ok (.sipush 200, 3) := by decide +kernel
theorem dX9_clock_81 : decode cX9_clock 81 = .ok (.if_icmp .ge 49, 3) := by decide +kernel
theorem dX9_clock_84 : decode cX9_clock 84 = .ok (.aload_n 3, 1) := by decide +kernel
theorem dX9_clock_85 : decode cX9_clock 85 = .ok (.ifnull 45, 3) := by decide +kernel
theorem dX9_clock_88 : decode cX9_clock 88 = .ok (.aload_n 0, 1) := by decide +kernel
theorem dX9_clock_89 : decode cX9_clock 89 = .ok (.aload_n 1, 1) := by decide +kernel
theorem dX9_clock_90 : decode cX9_clock 90 = .ok (.aload_n 3, 1) := by decide +kernel
theorem dX9_clock_91 : decode cX9_clock 91 = .ok (.getfield 255, 3) := by decide +kernel
theorem dX9_clock_94 : decode cX9_clock 94 = .ok (.aload_n 3, 1) := by decide +kernel
theorem dX9_clock_95 : decode cX9_clock 95 = .ok (.aload_n 0, 1) := by decide +kernel
theorem dX9_clock_96 : decode cX9_clock 96 = .ok (.getfield 49, 3) := by decide +kernel
theorem dX9_clock_99 : decode cX9_clock 99 = .ok (.getfield 259, 3) := by decide +kernel
theorem dX9_clock_102 : decode cX9_clock 102 = .ok (.aload_n 0, 1) := by decide +kernel
theorem dX9_clock_103 : decode cX9_clock 103 = .ok (.getfield 49, 3) := by decide +kernel
theorem dX9_clock_106 : decode cX9_clock 106 = .ok (.getfield 260, 3) := by decide +kernel
theorem dX9_clock_109 : decode cX9_clock 109 = .ok (.invokevirtual 263, 3) := by decide +kernel
theorem dX9_clock_112 : decode cX9_clock 112 = .ok (.aload_n 0, 1) := by decide +kernel
theorem dX9_clock_113 : decode cX9_clock 113 = .ok (.getfield 49, 3) := by decide +kernel
theorem dX9_clock_116 : decode cX9_clock 116 = .ok (.aload_n 0, 1) := by decide +kernel
theorem dX9_clock_117 : decode cX9_clock 117 = .ok (.getfield 28, 3) := by decide +kernel
theorem dX9_clock_120 : decode cX9_clock 120 = .ok (.invokevirtual 251, 3) := by decide +kernel
theorem dX9_clock_123 : decode cX9_clock 123 = .ok (.astore_n 3, 1) := by decide +kernel
theorem dX9_clock_124 : decode cX9_clock 124 = .ok (.iinc 4 1, 3) := by decide +kernel
theorem dX9_clock_127 : decode cX9_clock 127 = .ok (.goto (-51), 3) := by decide +kernel
theorem dX9_clock_130 : decode cX9_clock 130 = .ok (.aload_n 1, 1) := by decide +kernel
theorem dX9_clock_131 : decode cX9_clock 131 = .ok (.getfield 146, 3) := by decide +kernel
theorem dX9_clock_134 : decode cX9_clock 134 = .ok (.iconst 1, 1) := by decide +kernel
theorem dX9_clock_135 : decode cX9_clock 135 = .ok (.if_icmp .ne 8, 3) := by decide +kernel
theorem dX9_clock_138 : decode cX9_clock 138 = .ok (.aload_n 1, 1) := by decide +kernel
theorem dX9_clock_139 : decode cX9_clock 139 = .ok (.iconst 0, 1) := by decide +kernel
theorem dX9_clock_140 : decode cX9_clock 140 = .ok (.putfield 146, 3) := by decide +kernel
theorem dX9_clock_143 : decode cX9_clock 143 = .ok (.iload_n 2, 1) := by decide +kernel
theorem dX9_clock_144 : decode cX9_clock 144 = .ok (.aload_n 1, 1) := by decide +kernel
theorem dX9_clock_145 : decode cX9_clock 145 = .ok (.getfield 174, 3) := by decide +kernel
theorem dX9_clock_148 : decode cX9_clock 148 = .ok (.isub, 1) := by decide +kernel
theorem dX9_clock_149 : decode cX9_clock 149 = .ok (.ireturn, 1) := by decide +kernel
theorem dX9_presell_0 : decode cX9_presell 0 = .ok (.aload_n 0, 1) := by decide +kernel
theorem dX9_presell_1 : decode cX9_presell 1 = .ok (.iload_n 1, 1) := by decide +kernel
theorem dX9_presell_2 : decode cX9_presell 2 = .ok (.invokevirtual 140, 3) := by decide +kernel
theorem dX9_presell_5 : decode cX9_presell 5 = .ok (.astore 5, 2) := by decide +kernel
theorem dX9_presell_7 : decode cX9_presell 7 = .ok (.aload_n 0, 1) := by decide +kernel
theorem dX9_presell_8 : decode cX9_presell 8 = .ok (.iload_n 2, 1) := by decide +kernel
theorem dX9_presell_9 : decode cX9_presell 9 = .ok (.invokevirtual 214, 3) := by decide +kernel
theorem dX9_presell_12 : decode cX9_presell 12 = .ok (.astore 6, 2) := by decide +kernel
theorem dX9_presell_14 : decode cX9_presell 14 = .ok (.iload_n 3, 1) := by decide +kernel
theorem dX9_presell_15 : decode cX9_presell 15 = .ok (.iconst 1, 1) := by decide +kernel
theorem dX9_presell_16 : decode cX9_presell 16 = .ok (.if_icmp .lt 14, 3) := by decide +kernel
theorem dX9_presell_19 : decode cX9_presell 19 = .ok (.iload 4, 2) := by decide +kernel
theorem dX9_presell_21 : decode cX9_presell 21 = .ok (.iconst 1, 1) := by decide +kernel
theorem dX9_presell_22 : decode cX9_presell 22 = .ok (.bipush 99, 2) := by decide +kernel
theorem dX9_presell_24 : decode cX9_presell 24 = .ok (.invokestatic 85, 3) := by decide +kernel
theorem dX9_presell_27 : decode cX9_presell 27 = .ok (.ifCond .ne 14, 3) := by decide +kernel
theorem dX9_presell_30 : decode cX9_presell 30 = .ok (.new 89, 3) := by decide +kernel
theorem dX9_presell_33 : decode cX9_presell 33 = .ok (.dup, 1) := by decide +kernel
theorem dX9_presell_34 : decode cX9_presell 34 = .ok (.ldc_w 267, 3) := by decide +kernel
theorem dX9_presell_37 : decode cX9_presell 37 = .ok (.invokespecial 93, 3) := by decide +kernel
theorem dX9_presell_40 : decode cX9_presell 40 = .ok (.athrow, 1) := by decide +kernel
theorem dX9_presell_41 : decode cX9_presell 41 = .ok (.aload 5, 2) := by decide +kernel
theorem dX9_presell_43 : decode cX9_presell 43 = .ok (.getfield 146, 3) := by decide +kernel
theorem dX9_presell_46 : decode cX9_presell 46 = .ok (.ifCond .ne 24, 3) := by decide +kernel
theorem dX9_presell_49 : decode cX9_presell 49 = .ok (.iload_n 3, 1) := by decide +kernel
theorem dX9_presell_50 : decode cX9_presell 50 = .ok (.aload 5, 2) := by decide +kernel
theorem dX9_presell_52 : decode cX9_presell 52 = .ok (.getfield 174, 3) := by decide +kernel
theorem dX9_presell_55 : decode cX9_presell 55 = .ok (.if_icmp .gt 15, 3) := by decide +kernel
theorem dX9_presell_58 : decode cX9_presell 58 = .ok (.iload 4, 2) := by decide +kernel
theorem dX9_presell_60 : decode cX9_presell 60 = .ok (.iload_n 3, 1) := by decide +kernel
theorem dX9_presell_61 : decode cX9_presell 61 = .ok (.imul, 1) := by decide +kernel
theorem dX9_presell_62 : decode cX9_presell 62 = .ok (.aload 6, 2) := by decide +kernel
theorem dX9_presell_64 : decode cX9_presell 64 = .ok (.getfield 269, 3) := by decide +kernel
theorem dX9_presell_67 : decode cX9_presell 67 = .ok (.if_icmp .le 14, 3) := by decide +kernel
theorem dX9_presell_70 : decode cX9_presell 70 = .ok (.new 67, 3) := by decide +kernel
theorem dX9_presell_73 : decode cX9_presell 73 = .ok (.dup, 1) := by decide +kernel
theorem dX9_presell_74 : decode cX9_presell 74 = .ok (.ldc_w 272, 3) := by decide +kernel
theorem dX9_presell_77 : decode cX9_presell 77 = .ok (.invokespecial 71, 3) := by decide +kernel
theorem dX9_presell_80 : decode cX9_presell 80 = .ok (.athrow, 1) := by decide +kernel
theorem dX9_presell_81 : decode cX9_presell 81 = .ok (.aload_n 0, 1) := by decide +kernel
theorem dX9_presell_82 : decode cX9_presell 82 = .ok (.aload 5, 2) := by decide +kernel
theorem dX9_presell_84 : decode cX9_presell 84 = .ok (.aload 6, 2) := by decide +kernel
theorem dX9_presell_86 : decode cX9_presell 86 = .ok (.aconst_null, 1) := by decide +kernel
theorem dX9_presell_87 : decode cX9_presell 87 = .ok (.iload_n 3, 1) := by decide +kernel
theorem dX9_presell_88 : decode cX9_presell 88 = .ok (.iload 4, 2) := by decide +kernel
theorem dX9_presell_90 : decode cX9_presell 90 = .ok (.invokevirtual 263, 3) := by decide +kernel
theorem dX9_presell_93 : decode cX9_presell 93 = .ok (.iload 4, 2) := by decide +kernel
theorem dX9_presell_95 : decode cX9_presell 95 = .ok (.iload_n 3, 1) := by decide +kernel
theorem dX9_presell_96 : decode cX9_presell 96 = .ok (.imul, 1) := by decide +kernel
theorem dX9_presell_97 : decode cX9_presell 97 = .ok (.invokestatic 274, 3) := by decide +kernel
theorem dX9_presell_100 : decode cX9_presell 100 = .ok (.ireturn, 1) := by decide +kernel
theorem dX9_undo_0 : decode cX9_undo 0 = .ok (.aload_n 0, 1) := by decide +kernel
theorem dX9_undo_1 : decode cX9_undo 1 = .ok (.getfield 34, 3) := by decide +kernel
theorem dX9_undo_4 : decode cX9_undo 4 = .ok (.invokevirtual 237, 3) := by decide +kernel
theorem dX9_undo_7 : decode cX9_undo 7 = .ok (.ifCond .eq 14, 3) := by decide +kernel
theorem dX9_undo_10 : decode cX9_undo 10 = .ok (.new 67, 3) := by decide +kernel
theorem dX9_undo_13 : decode cX9_undo 13 = .ok (.dup, 1) := by decide +kernel
theorem dX9_undo_14 : decode cX9_undo 14 = .ok (.ldc_w 277, 3) := by decide +kernel
theorem dX9_undo_17 : decode cX9_undo 17 = .ok (.invokespecial 71, 3) := by decide +kernel
theorem dX9_undo_20 : decode cX9_undo 20 = .ok (.athrow, 1) := by decide +kernel
theorem dX9_undo_21 : decode cX9_undo 21 = .ok (.aload_n 0, 1) := by decide +kernel
theorem dX9_undo_22 : decode cX9_undo 22 = .ok (.getfield 34, 3) := by decide +kernel
theorem dX9_undo_25 : decode cX9_undo 25 = .ok (.aload_n 0, 1) := by decide +kernel
theorem dX9_undo_26 : decode cX9_undo 26 = .ok (.getfield 34, 3) := by decide +kernel
theorem dX9_undo_29 : decode cX9_undo 29 = .ok (.invokevirtual 63, 3) := by decide +kernel
theorem dX9_undo_32 : decode cX9_undo 32 = .ok (.iconst 1, 1) := by decide +kernel
theorem dX9_undo_33 : decode cX9_undo 33 = .ok (.isub, 1) := by decide +kernel
theorem dX9_undo_34 : decode cX9_undo 34 = .ok (.invokevirtual 279, 3) := by decide +kernel
theorem dX9_undo_37 : decode cX9_undo 37 = .ok (.checkcast 282, 3) := by decide +kernel
theorem dX9_undo_40 : decode cX9_undo 40 = .ok (.astore_n 1, 1) := by decide +kernel
theorem dX9_undo_41 : decode cX9_undo 41 = .ok (.aload_n 1, 1) := by decide +kernel
theorem dX9_undo_42 : decode cX9_undo 42 = .ok (.getfield 284, 3) := by decide +kernel
theorem dX9_undo_45 : decode cX9_undo 45 = .ok (.aload_n 0, 1) := by decide +kernel
theorem dX9_undo_46 : decode cX9_undo 46 = .ok (.getfield 287, 3) := by decide +kernel
theorem dX9_undo_49 : decode cX9_undo 49 = .ok (.if_icmp .ne 28, 3) := by decide +kernel
theorem dX9_undo_52 : decode cX9_undo 52 = .ok (.aload_n 1, 1) := by decide +kernel
theorem dX9_undo_53 : decode cX9_undo 53 = .ok (.getfield 288, 3) := by decide +kernel
theorem dX9_undo_56 : decode cX9_undo 56 = .ok (.getfield 146, 3) := by decide +kernel
theorem dX9_undo_59 : decode cX9_undo 59 = .ok (.iconst 3, 1) := by decide +kernel
theorem dX9_undo_60 : decode cX9_undo 60 = .ok (.if_icmp .eq 17, 3) := by decide +kernel
theorem dX9_undo_63 : decode cX9_undo 63 = .ok (.aload_n 1, 1) := by decide +kernel
theorem dX9_undo_64 : decode cX9_undo 64 = .ok (.getfield 292, 3) := by decide +kernel
theorem dX9_undo_67 : decode cX9_undo 67 = .ok (.getfield 293, 3) := by decide +kernel
theorem dX9_undo_70 : decode cX9_undo 70 = .ok (.aload_n 1, 1) := by decide +kernel
theorem dX9_undo_71 : decode cX9_undo 71 = .ok (.getfield 294, 3) := by decide +kernel
theorem dX9_undo_74 : decode cX9_undo 74 = .ok (.if_icmp .ge 14, 3) := by decide +kernel
theorem dX9_undo_77 : decode cX9_undo 77 = .ok (.new 67, 3) := by decide +kernel
theorem dX9_undo_80 : decode cX9_undo 80 = .ok (.dup, 1) := by decide +kernel
theorem dX9_undo_81 : decode cX9_undo 81 = .ok (.ldc_w 295, 3) := by decide +kernel
theorem dX9_undo_84 : decode cX9_undo 84 = .ok (.invokespecial 71, 3) := by decide +kernel
theorem dX9_undo_87 : decode cX9_undo 87 = .ok (.athrow, 1) := by decide +kernel
theorem dX9_undo_88 : decode cX9_undo 88 = .ok (.aload_n 0, 1) := by decide +kernel
theorem dX9_undo_89 : decode cX9_undo 89 = .ok (.getfield 34, 3) := by decide +kernel
theorem dX9_undo_92 : decode cX9_undo 92 = .ok (.aload_n 0, 1) := by decide +kernel
theorem dX9_undo_93 : decode cX9_undo 93 = .ok (.getfield 34, 3) := by decide +kernel
theorem dX9_undo_96 : decode cX9_undo 96 = .ok (.invokevirtual 63, 3) := by decide +kernel
theorem dX9_undo_99 : decode cX9_undo 99 = .ok (.iconst 1, 1) := by decide +kernel
theorem dX9_undo_100 : decode cX9_undo 100 = .ok (.isub, 1) := by decide +kernel
theorem dX9_undo_101 : decode cX9_undo 101 = .ok (.invokevirtual 243, 3) := by decide +kernel
theorem dX9_undo_104 : decode cX9_undo 104 = .ok (.pop, 1) := by decide +kernel
theorem dX9_undo_105 : decode cX9_undo 105 = .ok (.aload_n 0, 1) := by decide +kernel
theorem dX9_undo_106 : decode cX9_undo 106 = .ok (.aload_n 1, 1) := by decide +kernel
theorem dX9_undo_107 : decode cX9_undo 107 = .ok (.invokevirtual 297, 3) := by decide +kernel
theorem dX9_undo_110 : decode cX9_undo 110 = .ok (.aload_n 1, 1) := by decide +kernel
theorem dX9_undo_111 : decode cX9_undo 111 = .ok (.getfield 301, 3) := by decide +kernel
theorem dX9_undo_114 : decode cX9_undo 114 = .ok (.ireturn, 1) := by decide +kernel
theorem dX9_bind_0 : decode cX9_bind 0 = .ok (.aload_n 0, 1) := by decide +kernel
theorem dX9_bind_1 : decode cX9_bind 1 = .ok (.iload_n 1, 1) := by decide +kernel
theorem dX9_bind_2 : decode cX9_bind 2 = .ok (.invokevirtual 214, 3) := by decide +kernel
theorem dX9_bind_5 : decode cX9_bind 5 = .ok (.astore_n 3, 1) := by decide +kernel
theorem dX9_bind_6 : decode cX9_bind 6 = .ok (.iload_n 2, 1) := by decide +kernel
theorem dX9_bind_7 : decode cX9_bind 7 = .ok (.iconst 1, 1) := by decide +kernel
theorem dX9_bind_8 : decode cX9_bind 8 = .ok (.bipush 99, 2) := by decide +kernel
theorem dX9_bind_10 : decode cX9_bind 10 = .ok (.invokestatic 85, 3) := by decide +kernel
theorem dX9_bind_13 : decode cX9_bind 13 = .ok (.ifCond .ne 14, 3) := by decide +kernel
theorem dX9_bind_16 : decode cX9_bind 16 = .ok (.new 89, 3) := by decide +kernel
theorem dX9_bind_19 : decode cX9_bind 19 = .ok (.dup, 1) := by decide +kernel
theorem dX9_bind_20 : decode cX9_bind 20 = .ok (.ldc_w 304, 3) := by decide +kernel
theorem dX9_bind_23 : decode cX9_bind 23 = .ok (.invokespecial 93, 3) := by decide +kernel
theorem dX9_bind_26 : decode cX9_bind 26 = .ok (.athrow, 1) := by decide +kernel
theorem dX9_bind_27 : decode cX9_bind 27 = .ok (.iconst 0, 1) := by decide +kernel
theorem dX9_bind_28 : decode cX9_bind 28 = .ok (.istore 4, 2) := by decide +kernel
theorem dX9_bind_30 : decode cX9_bind 30 = .ok (.iload 4, 2) := by decide +kernel
theorem dX9_bind_32 : decode cX9_bind 32 = .ok (.iload_n 2, 1) := by decide +kernel
theorem dX9_bind_33 : decode cX9_bind 33 = .ok (.if_icmp .ge 19, 3) := by decide +kernel
theorem dX9_bind_36 : decode cX9_bind 36 = .ok (.aload_n 3, 1) := by decide +kernel
theorem dX9_bind_37 : decode cX9_bind 37 = .ok (.getfield 306, 3) := by decide +kernel
theorem dX9_bind_40 : decode cX9_bind 40 = .ok (.invokestatic 309, 3) := by decide +kernel
theorem dX9_bind_43 : decode cX9_bind 43 = .ok (.ifCond .eq 9, 3) := by decide +kernel
theorem dX9_bind_46 : decode cX9_bind 46 = .ok (.iinc 4 1, 3) := by decide +kernel
theorem dX9_bind_49 : decode cX9_bind 49 = .ok (.goto (-19), 3) := by decide +kernel
theorem dX9_bind_52 : decode cX9_bind 52 = .ok (.aload_n 3, 1) := by decide +kernel
theorem dX9_bind_53 : decode cX9_bind 53 = .ok (.dup, 1) := by decide +kernel
theorem dX9_bind_54 : decode cX9_bind 54 = .ok (.getfield 313, 3) := by decide +kernel
theorem dX9_bind_57 : decode cX9_bind 57 = .ok (.iload 4, 2) := by decide +kernel
theorem dX9_bind_59 : decode cX9_bind 59 = .ok (.iadd, 1) := by decide +kernel
theorem dX9_bind_60 : decode cX9_bind 60 = .ok (.putfield 313, 3) := by decide +kernel
theorem dX9_bind_63 : decode cX9_bind 63 = .ok (.iload 4, 2) := by decide +kernel
theorem dX9_bind_65 : decode cX9_bind 65 = .ok (.ireturn, 1) := by decide +kernel
theorem dX9_back_0 : decode cX9_back 0 = .ok (.aload_n 0, 1) := by decide +kernel
theorem dX9_back_1 : decode cX9_back 1 = .ok (.iload_n 1, 1) := by decide +kernel
theorem dX9_back_2 : decode cX9_back 2 = .ok (.invokevirtual 214, 3) := by decide +kernel
theorem dX9_back_5 : decode cX9_back 5 = .ok (.astore_n 3, 1) := by decide +kernel
theorem dX9_back_6 : decode cX9_back 6 = .ok (.iload_n 2, 1) := by decide +kernel
theorem dX9_back_7 : decode cX9_back 7 = .ok (.iconst 1, 1) := by decide +kernel
theorem dX9_back_8 : decode cX9_back 8 = .ok (.if_icmp .ge 14, 3) := by decide +kernel
theorem dX9_back_11 : decode cX9_back 11 = .ok (.new 89, 3) := by decide +kernel
theorem dX9_back_14 : decode cX9_back 14 = .ok (.dup, 1) := by decide +kernel
theorem dX9_back_15 : decode cX9_back 15 = .ok (.ldc_w 316, 3) := by decide +kernel
theorem dX9_back_18 : decode cX9_back 18 = .ok (.invokespecial 93, 3) := by decide +kernel
theorem dX9_back_21 : decode cX9_back 21 = .ok (.athrow, 1) := by decide +kernel
theorem dX9_back_22 : decode cX9_back 22 = .ok (.iload_n 2, 1) := by decide +kernel
theorem dX9_back_23 : decode cX9_back 23 = .ok (.aload_n 3, 1) := by decide +kernel
theorem dX9_back_24 : decode cX9_back 24 = .ok (.getfield 293, 3) := by decide +kernel
theorem dX9_back_27 : decode cX9_back 27 = .ok (.if_icmp .le 14, 3) := by decide +kernel
theorem dX9_back_30 : decode cX9_back 30 = .ok (.new 67, 3) := by decide +kernel
theorem dX9_back_33 : decode cX9_back 33 = .ok (.dup, 1) := by decide +kernel
theorem dX9_back_34 : decode cX9_back 34 = .ok (.ldc_w 318, 3) := by decide +kernel
theorem dX9_back_37 : decode cX9_back 37 = .ok (.invokespecial 71, 3) := by decide +kernel
theorem dX9_back_40 : decode cX9_back 40 = .ok (.athrow, 1) := by decide +kernel
theorem dX9_back_41 : decode cX9_back 41 = .ok (.aload_n 3, 1) := by decide +kernel
theorem dX9_back_42 : decode cX9_back 42 = .ok (.dup, 1) := by decide +kernel
theorem dX9_back_43 : decode cX9_back 43 = .ok (.getfield 293, 3) := by decide +kernel
theorem dX9_back_46 : decode cX9_back 46 = .ok (.iload_n 2, 1) := by decide +kernel
theorem dX9_back_47 : decode cX9_back 47 = .ok (.isub, 1) := by decide +kernel
theorem dX9_back_48 : decode cX9_back 48 = .ok (.putfield 293, 3) := by decide +kernel
theorem dX9_back_51 : decode cX9_back 51 = .ok (.aload_n 0, 1) := by decide +kernel
theorem dX9_back_52 : decode cX9_back 52 = .ok (.dup, 1) := by decide +kernel
theorem dX9_back_53 : decode cX9_back 53 = .ok (.getfield 57, 3) := by decide +kernel
theorem dX9_back_56 : decode cX9_back 56 = .ok (.iload_n 2, 1) := by decide +kernel
theorem dX9_back_57 : decode cX9_back 57 = .ok (.iadd, 1) := by decide +kernel
theorem dX9_back_58 : decode cX9_back 58 = .ok (.putfield 57, 3) := by decide +kernel
theorem dX9_back_61 : decode cX9_back 61 = .ok (.aload_n 3, 1) := by decide +kernel
theorem dX9_back_62 : decode cX9_back 62 = .ok (.dup, 1) := by decide +kernel
theorem dX9_back_63 : decode cX9_back 63 = .ok (.getfield 269, 3) := by decide +kernel
theorem dX9_back_66 : decode cX9_back 66 = .ok (.iload_n 2, 1) := by decide +kernel
theorem dX9_back_67 : decode cX9_back 67 = .ok (.iconst 2, 1) := by decide +kernel
theorem dX9_back_68 : decode cX9_back 68 = .ok (.imul, 1) := by decide +kernel
theorem dX9_back_69 : decode cX9_back 69 = .ok (.iadd, 1) := by decide +kernel
theorem dX9_back_70 : decode cX9_back 70 = .ok (.putfield 269, 3) := by decide +kernel
theorem dX9_back_73 : decode cX9_back 73 = .ok (.aload_n 0, 1) := by decide +kernel
theorem dX9_back_74 : decode cX9_back 74 = .ok (.dup, 1) := by decide +kernel
theorem dX9_back_75 : decode cX9_back 75 = .ok (.getfield 320, 3) := by decide +kernel
theorem dX9_back_78 : decode cX9_back 78 = .ok (.iload_n 2, 1) := by decide +kernel
theorem dX9_back_79 : decode cX9_back 79 = .ok (.iconst 2, 1) := by decide +kernel
theorem dX9_back_80 : decode cX9_back 80 = .ok (.imul, 1) := by decide +kernel
theorem dX9_back_81 : decode cX9_back 81 = .ok (.isub, 1) := by decide +kernel
theorem dX9_back_82 : decode cX9_back 82 = .ok (.putfield 320, 3) := by decide +kernel
theorem dX9_back_85 : decode cX9_back 85 = .ok (.aload_n 0, 1) := by decide +kernel
theorem dX9_back_86 : decode cX9_back 86 = .ok (.getfield 57, 3) := by decide +kernel
theorem dX9_back_89 : decode cX9_back 89 = .ok (.ireturn, 1) := by decide +kernel
theorem dX9_clear_0 : decode cX9_clear 0 = .ok (.aload_n 0, 1) := by decide +kernel
theorem dX9_clear_1 : decode cX9_clear 1 = .ok (.iload_n 1, 1) := by decide +kernel
theorem dX9_clear_2 : decode cX9_clear 2 = .ok (.invokevirtual 140, 3) := by decide +kernel
theorem dX9_clear_5 : decode cX9_clear 5 = .ok (.astore_n 3, 1) := by decide +kernel
theorem dX9_clear_6 : decode cX9_clear 6 = .ok (.aload_n 3, 1) := by decide +kernel
theorem dX9_clear_7 : decode cX9_clear 7 = .ok (.getfield 146, 3) := by decide +kernel
theorem dX9_clear_10 : decode cX9_clear 10 = .ok (.ifCond .eq 14, 3) := by decide +kernel
theorem dX9_clear_13 : decode cX9_clear 13 = .ok (.new 67, 3) := by decide +kernel
theorem dX9_clear_16 : decode cX9_clear 16 = .ok (.dup, 1) := by decide +kernel
theorem dX9_clear_17 : decode cX9_clear 17 = .ok (.ldc_w 323, 3) := by decide +kernel
theorem dX9_clear_20 : decode cX9_clear 20 = .ok (.invokespecial 71, 3) := by decide +kernel
theorem dX9_clear_23 : decode cX9_clear 23 = .ok (.athrow, 1) := by decide +kernel
theorem dX9_clear_24 : decode cX9_clear 24 = .ok (.aload_n 3, 1) := by decide +kernel
theorem dX9_clear_25 : decode cX9_clear 25 = .ok (.getfield 174, 3) := by decide +kernel
theorem dX9_clear_28 : decode cX9_clear 28 = .ok (.istore 4, 2) := by decide +kernel
theorem dX9_clear_30 : decode cX9_clear 30 = .ok (.aload_n 0, 1) := by decide +kernel
theorem dX9_clear_31 : decode cX9_clear 31 = .ok (.dup, 1) := by decide +kernel
theorem dX9_clear_32 : decode cX9_clear 32 = .ok (.getfield 325, 3) := by decide +kernel
theorem dX9_clear_35 : decode cX9_clear 35 = .ok (.iload 4, 2) := by decide +kernel
theorem dX9_clear_37 : decode cX9_clear 37 = .ok (.iadd, 1) := by decide +kernel
theorem dX9_clear_38 : decode cX9_clear 38 = .ok (.putfield 325, 3) := by decide +kernel
theorem dX9_clear_41 : decode cX9_clear 41 = .ok (.aload_n 0, 1) := by decide +kernel
theorem dX9_clear_42 : decode cX9_clear 42 = .ok (.dup, 1) := by decide +kernel
theorem dX9_clear_43 : decode cX9_clear 43 = .ok (.getfield 57, 3) := by decide +kernel
theorem dX9_clear_46 : decode cX9_clear 46 = .ok (.aload_n 3, 1) := by decide +kernel
theorem dX9_clear_47 : decode cX9_clear 47 = .ok (.getfield 134, 3) := by decide +kernel
theorem dX9_clear_50 : decode cX9_clear 50 = .ok (.iadd, 1) := by decide +kernel
theorem dX9_clear_51 : decode cX9_clear 51 = .ok (.putfield 57, 3) := by decide +kernel
theorem dX9_clear_54 : decode cX9_clear 54 = .ok (.aload_n 3, 1) := by decide +kernel
theorem dX9_clear_55 : decode cX9_clear 55 = .ok (.iconst 0, 1) := by decide +kernel
theorem dX9_clear_56 : decode cX9_clear 56 = .ok (.putfield 174, 3) := by decide +kernel
theorem dX9_clear_59 : decode cX9_clear 59 = .ok (.aload_n 3, 1) := by decide +kernel
theorem dX9_clear_60 : decode cX9_clear 60 = .ok (.iconst 0, 1) := by decide +kernel
theorem dX9_clear_61 : decode cX9_clear 61 = .ok (.putfield 134, 3) := by decide +kernel
theorem dX9_clear_64 : decode cX9_clear 64 = .ok (.aload_n 3, 1) := by decide +kernel
theorem dX9_clear_65 : decode cX9_clear 65 = .ok (.iconst 3, 1) := by decide +kernel
theorem dX9_clear_66 : decode cX9_clear 66 = .ok (.putfield 146, 3) := by decide +kernel
theorem dX9_clear_69 : decode cX9_clear 69 = .ok (.iload_n 2, 1) := by decide +kernel
theorem dX9_clear_70 : decode cX9_clear 70 = .ok (.ifCond .eq 24, 3) := by decide +kernel
theorem dX9_clear_73 : decode cX9_clear 73 = .ok (.aload_n 3, 1) := by decide +kernel
theorem dX9_clear_74 : decode cX9_clear 74 = .ok (.getfield 161, 3) := by decide +kernel
theorem dX9_clear_77 : decode cX9_clear 77 = .ok (.bipush 100, 2) := by decide +kernel
theorem dX9_clear_79 : decode cX9_clear 79 = .ok (.aload_n 3, 1) := by decide +kernel
theorem dX9_clear_80 : decode cX9_clear 80 = .ok (.getfield 161, 3) := by decide +kernel
theorem dX9_clear_83 : decode cX9_clear 83 = .ok (.getfield 194, 3) := by decide +kernel
theorem dX9_clear_86 : decode cX9_clear 86 = .ok (.iconst 1, 1) := by decide +kernel
theorem dX9_clear_87 : decode cX9_clear 87 = .ok (.iadd, 1) := by decide +kernel
theorem dX9_clear_88 : decode cX9_clear 88 = .ok (.invokestatic 203, 3) := by decide +kernel
theorem dX9_clear_91 : decode cX9_clear 91 = .ok (.putfield 194, 3) := by decide +kernel
theorem dX9_clear_94 : decode cX9_clear 94 = .ok (.iload 4, 2) := by decide +kernel
theorem dX9_clear_96 : decode cX9_clear 96 = .ok (.ireturn, 1) := by decide +kernel
theorem dX9_ofCrop_0 : decode cX9_ofCrop 0 = .ok (.aload_n 0, 1) := by decide +kernel
theorem dX9_ofCrop_1 : decode cX9_ofCrop 1 = .ok (.iload_n 1, 1) := by decide +kernel
theorem dX9_ofCrop_2 : decode cX9_ofCrop 2 = .ok (.invokevirtual 110, 3) := by decide +kernel
theorem dX9_ofCrop_5 : decode cX9_ofCrop 5 = .ok (.astore_n 3, 1) := by decide +kernel
theorem dX9_ofCrop_6 : decode cX9_ofCrop 6 = .ok (.iload_n 2, 1) := by decide +kernel
theorem dX9_ofCrop_7 : decode cX9_ofCrop 7 = .ok (.iconst 0, 1) := by decide +kernel
theorem dX9_ofCrop_8 : decode cX9_ofCrop 8 = .ok (.iconst 5, 1) := by decide +kernel
theorem dX9_ofCrop_9 : decode cX9_ofCrop 9 = .ok (.invokestatic 85, 3) := by decide +kernel
theorem dX9_ofCrop_12 : decode cX9_ofCrop 12 = .ok (.ifCond .ne 14, 3) := by decide +kernel
theorem dX9_ofCrop_15 : decode cX9_ofCrop 15 = .ok (.new 89, 3) := by decide +kernel
theorem dX9_ofCrop_18 : decode cX9_ofCrop 18 = .ok (.dup, 1) := by decide +kernel
theorem dX9_ofCrop_19 : decode cX9_ofCrop 19 = .ok (.ldc_w 338, 3) := by decide +kernel
theorem dX9_ofCrop_22 : decode cX9_ofCrop 22 = .ok (.invokespecial 93, 3) := by decide +kernel
theorem dX9_ofCrop_25 : decode cX9_ofCrop 25 = .ok (.athrow, 1) := by decide +kernel
theorem dX9_ofCrop_26 : decode cX9_ofCrop 26 = .ok (.aload_n 3, 1) := by decide +kernel
theorem dX9_ofCrop_27 : decode cX9_ofCrop 27 = .ok (.iload_n 2, 1) := by decide +kernel
theorem dX9_ofCrop_28 : decode cX9_ofCrop 28 = .ok (.invokevirtual 340, 3) := by decide +kernel
theorem dX9_ofCrop_31 : decode cX9_ofCrop 31 = .ok (.ireturn, 1) := by decide +kernel
theorem dX9_ofLot_0 : decode cX9_ofLot 0 = .ok (.aload_n 0, 1) := by decide +kernel
theorem dX9_ofLot_1 : decode cX9_ofLot 1 = .ok (.iload_n 1, 1) := by decide +kernel
theorem dX9_ofLot_2 : decode cX9_ofLot 2 = .ok (.invokevirtual 140, 3) := by decide +kernel
theorem dX9_ofLot_5 : decode cX9_ofLot 5 = .ok (.astore_n 3, 1) := by decide +kernel
theorem dX9_ofLot_6 : decode cX9_ofLot 6 = .ok (.iload_n 2, 1) := by decide +kernel
theorem dX9_ofLot_7 : decode cX9_ofLot 7 = .ok (.iconst 0, 1) := by decide +kernel
theorem dX9_ofLot_8 : decode cX9_ofLot 8 = .ok (.bipush 9, 2) := by decide +kernel
theorem dX9_ofLot_10 : decode cX9_ofLot 10 = .ok (.invokestatic 85, 3) := by decide +kernel
theorem dX9_ofLot_13 : decode cX9_ofLot 13 = .ok (.ifCond .ne 14, 3) := by decide +kernel
theorem dX9_ofLot_16 : decode cX9_ofLot 16 = .ok (.new 89, 3) := by decide +kernel
theorem dX9_ofLot_19 : decode cX9_ofLot 19 = .ok (.dup, 1) := by decide +kernel
theorem dX9_ofLot_20 : decode cX9_ofLot 20 = .ok (.ldc_w 343, 3) := by decide +kernel
theorem dX9_ofLot_23 : decode cX9_ofLot 23 = .ok (.invokespecial 93, 3) := by decide +kernel
theorem dX9_ofLot_26 : decode cX9_ofLot 26 = .ok (.athrow, 1) := by decide +kernel
theorem dX9_ofLot_27 : decode cX9_ofLot 27 = .ok (.aload_n 3, 1) := by decide +kernel
theorem dX9_ofLot_28 : decode cX9_ofLot 28 = .ok (.iload_n 2, 1) := by decide +kernel
theorem dX9_ofLot_29 : decode cX9_ofLot 29 = .ok (.invokevirtual 345, 3) := by decide +kernel
theorem dX9_ofLot_32 : decode cX9_ofLot 32 = .ok (.ireturn, 1) := by decide +kernel
theorem dX9_ofGrower_0 : decode cX9_ofGrower 0 = .ok (.aload_n 0, 1) := by decide +kernel
theorem dX9_ofGrower_1 : decode cX9_ofGrower 1 = .ok (.iload_n 1, 1) := by decide +kernel
theorem dX9_ofGrower_2 : decode cX9_ofGrower 2 = .ok (.invokevirtual 81, 3) := by decide +kernel
theorem dX9_ofGrower_5 : decode cX9_ofGrower 5 = .ok (.astore_n 3, 1) := by decide +kernel
theorem dX9_ofGrower_6 : decode cX9_ofGrower 6 = .ok (.iload_n 2, 1) := by decide +kernel
theorem dX9_ofGrower_7 : decode cX9_ofGrower 7 = .ok (.iconst 0, 1) := by decide +kernel
theorem dX9_ofGrower_8 : decode cX9_ofGrower 8 = .ok (.iconst 4, 1) := by decide +kernel
theorem dX9_ofGrower_9 : decode cX9_ofGrower 9 = .ok (.invokestatic 85, 3) := by decide +kernel
theorem dX9_ofGrower_12 : decode cX9_ofGrower 12 = .ok (.ifCond .ne 14, 3) := by decide +kernel
theorem dX9_ofGrower_15 : decode cX9_ofGrower 15 = .ok (.new 89, 3) := by decide +kernel
theorem dX9_ofGrower_18 : decode cX9_ofGrower 18 = .ok (.dup, 1) := by decide +kernel
theorem dX9_ofGrower_19 : decode cX9_ofGrower 19 = .ok (.ldc_w 346, 3) := by decide +kernel
theorem dX9_ofGrower_22 : decode cX9_ofGrower 22 = .ok (.invokespecial 93, 3) := by decide +kernel
theorem dX9_ofGrower_25 : decode cX9_ofGrower 25 = .ok (.athrow, 1) := by decide +kernel
theorem dX9_ofGrower_26 : decode cX9_ofGrower 26 = .ok (.aload_n 3, 1) := by decide +kernel
theorem dX9_ofGrower_27 : decode cX9_ofGrower 27 = .ok (.iload_n 2, 1) := by decide +kernel
theorem dX9_ofGrower_28 : decode cX9_ofGrower 28 = .ok (.invokevirtual 348, 3) := by decide +kernel
theorem dX9_ofGrower_31 : decode cX9_ofGrower 31 = .ok (.ireturn, 1) := by decide +kernel
theorem dX9_ofBuyer_0 : decode cX9_ofBuyer 0 = .ok (.aload_n 0, 1) := by decide +kernel
theorem dX9_ofBuyer_1 : decode cX9_ofBuyer 1 = .ok (.iload_n 1, 1) := by decide +kernel
theorem dX9_ofBuyer_2 : decode cX9_ofBuyer 2 = .ok (.invokevirtual 214, 3) := by decide +kernel
theorem dX9_ofBuyer_5 : decode cX9_ofBuyer 5 = .ok (.astore_n 3, 1) := by decide +kernel
theorem dX9_ofBuyer_6 : decode cX9_ofBuyer 6 = .ok (.iload_n 2, 1) := by decide +kernel
theorem dX9_ofBuyer_7 : decode cX9_ofBuyer 7 = .ok (.iconst 0, 1) := by decide +kernel
theorem dX9_ofBuyer_8 : decode cX9_ofBuyer 8 = .ok (.bipush 8, 2) := by decide +kernel
theorem dX9_ofBuyer_10 : decode cX9_ofBuyer 10 = .ok (.invokestatic 85, 3) := by decide +kernel
theorem dX9_ofBuyer_13 : decode cX9_ofBuyer 13 = .ok (.ifCond .ne 14, 3) := by decide +kernel
theorem dX9_ofBuyer_16 : decode cX9_ofBuyer 16 = .ok (.new 89, 3) := by decide +kernel
theorem dX9_ofBuyer_19 : decode cX9_ofBuyer 19 = .ok (.dup, 1) := by decide +kernel
theorem dX9_ofBuyer_20 : decode cX9_ofBuyer 20 = .ok (.ldc_w 349, 3) := by decide +kernel
theorem dX9_ofBuyer_23 : decode cX9_ofBuyer 23 = .ok (.invokespecial 93, 3) := by decide +kernel
theorem dX9_ofBuyer_26 : decode cX9_ofBuyer 26 = .ok (.athrow, 1) := by decide +kernel
theorem dX9_ofBuyer_27 : decode cX9_ofBuyer 27 = .ok (.aload_n 3, 1) := by decide +kernel
theorem dX9_ofBuyer_28 : decode cX9_ofBuyer 28 = .ok (.iload_n 2, 1) := by decide +kernel
theorem dX9_ofBuyer_29 : decode cX9_ofBuyer 29 = .ok (.invokevirtual 351, 3) := by decide +kernel
theorem dX9_ofBuyer_32 : decode cX9_ofBuyer 32 = .ok (.ireturn, 1) := by decide +kernel
theorem dX9_sale_0 : decode cX9_sale 0 = .ok (.iload_n 1, 1) := by decide +kernel
theorem dX9_sale_1 : decode cX9_sale 1 = .ok (.ifCond .lt 14, 3) := by decide +kernel
theorem dX9_sale_4 : decode cX9_sale 4 = .ok (.iload_n 1, 1) := by decide +kernel
theorem dX9_sale_5 : decode cX9_sale 5 = .ok (.aload_n 0, 1) := by decide +kernel
theorem dX9_sale_6 : decode cX9_sale 6 = .ok (.getfield 34, 3) := by decide +kernel
theorem dX9_sale_9 : decode cX9_sale 9 = .ok (.invokevirtual 63, 3) := by decide +kernel
theorem dX9_sale_12 : decode cX9_sale 12 = .ok (.if_icmp .lt 14, 3) := by decide +kernel
theorem dX9_sale_15 : decode cX9_sale 15 = .ok (.new 328, 3) := by decide +kernel
theorem dX9_sale_18 : decode cX9_sale 18 = .ok (.dup, 1) := by decide +kernel
theorem dX9_sale_19 : decode cX9_sale 19 = .ok (.ldc_w 357, 3) := by decide +kernel
theorem dX9_sale_22 : decode cX9_sale 22 = .ok (.invokespecial 332, 3) := by decide +kernel
theorem dX9_sale_25 : decode cX9_sale 25 = .ok (.athrow, 1) := by decide +kernel
theorem dX9_sale_26 : decode cX9_sale 26 = .ok (.iload_n 2, 1) := by decide +kernel
theorem dX9_sale_27 : decode cX9_sale 27 = .ok (.iconst 0, 1) := by decide +kernel
theorem dX9_sale_28 : decode cX9_sale 28 = .ok (.iconst 4, 1) := by decide +kernel
theorem dX9_sale_29 : decode cX9_sale 29 = .ok (.invokestatic 85, 3) := by decide +kernel
theorem dX9_sale_32 : decode cX9_sale 32 = .ok (.ifCond .ne 14, 3) := by decide +kernel
theorem dX9_sale_35 : decode cX9_sale 35 = .ok (.new 89, 3) := by decide +kernel
theorem dX9_sale_38 : decode cX9_sale 38 = .ok (.dup, 1) := by decide +kernel
theorem dX9_sale_39 : decode cX9_sale 39 = .ok (.ldc_w 346, 3) := by decide +kernel
theorem dX9_sale_42 : decode cX9_sale 42 = .ok (.invokespecial 93, 3) := by decide +kernel
theorem dX9_sale_45 : decode cX9_sale 45 = .ok (.athrow, 1) := by decide +kernel
theorem dX9_sale_46 : decode cX9_sale 46 = .ok (.aload_n 0, 1) := by decide +kernel
theorem dX9_sale_47 : decode cX9_sale 47 = .ok (.getfield 34, 3) := by decide +kernel
theorem dX9_sale_50 : decode cX9_sale 50 = .ok (.aload_n 0, 1) := by decide +kernel
theorem dX9_sale_51 : decode cX9_sale 51 = .ok (.getfield 34, 3) := by decide +kernel
theorem dX9_sale_54 : decode cX9_sale 54 = .ok (.invokevirtual 63, 3) := by decide +kernel
theorem dX9_sale_57 : decode cX9_sale 57 = .ok (.iconst 1, 1) := by decide +kernel
theorem dX9_sale_58 : decode cX9_sale 58 = .ok (.isub, 1) := by decide +kernel
theorem dX9_sale_59 : decode cX9_sale 59 = .ok (.iload_n 1, 1) := by decide +kernel
theorem dX9_sale_60 : decode cX9_sale 60 = .ok (.isub, 1) := by decide +kernel
theorem dX9_sale_61 : decode cX9_sale 61 = .ok (.invokevirtual 279, 3) := by decide +kernel
theorem dX9_sale_64 : decode cX9_sale 64 = .ok (.checkcast 282, 3) := by decide +kernel
theorem dX9_sale_67 : decode cX9_sale 67 = .ok (.iload_n 2, 1) := by decide +kernel
theorem dX9_sale_68 : decode cX9_sale 68 = .ok (.invokevirtual 359, 3) := by decide +kernel
theorem dX9_sale_71 : decode cX9_sale 71 = .ok (.ireturn, 1) := by decide +kernel
theorem dX9_row_0 : decode cX9_row 0 = .ok (.iload_n 1, 1) := by decide +kernel
theorem dX9_row_1 : decode cX9_row 1 = .ok (.ifCond .ge 14, 3) := by decide +kernel
theorem dX9_row_4 : decode cX9_row 4 = .ok (.new 89, 3) := by decide +kernel
theorem dX9_row_7 : decode cX9_row 7 = .ok (.dup, 1) := by decide +kernel
theorem dX9_row_8 : decode cX9_row 8 = .ok (.ldc_w 360, 3) := by decide +kernel
theorem dX9_row_11 : decode cX9_row 11 = .ok (.invokespecial 93, 3) := by decide +kernel
theorem dX9_row_14 : decode cX9_row 14 = .ok (.athrow, 1) := by decide +kernel
theorem dX9_row_15 : decode cX9_row 15 = .ok (.aload_n 0, 1) := by decide +kernel
theorem dX9_row_16 : decode cX9_row 16 = .ok (.iload_n 1, 1) := by decide +kernel
theorem dX9_row_17 : decode cX9_row 17 = .ok (.invokevirtual 362, 3) := by decide +kernel
theorem dX9_row_20 : decode cX9_row 20 = .ok (.ireturn, 1) := by decide +kernel
theorem dX9_many_0 : decode cX9_many 0 = .ok (.iload_n 1, 1) := by decide +kernel
theorem dX9_many_1 : decode cX9_many 1 = .ok (.iconst 0, 1) := by decide +kernel
theorem dX9_many_2 : decode cX9_many 2 = .ok (.bipush 15, 2) := by decide +kernel
theorem dX9_many_4 : decode cX9_many 4 = .ok (.invokestatic 85, 3) := by decide +kernel
theorem dX9_many_7 : decode cX9_many 7 = .ok (.ifCond .ne 14, 3) := by decide +kernel
theorem dX9_many_10 : decode cX9_many 10 = .ok (.new 89, 3) := by decide +kernel
theorem dX9_many_13 : decode cX9_many 13 = .ok (.dup, 1) := by decide +kernel
theorem dX9_many_14 : decode cX9_many 14 = .ok (.ldc_w 365, 3) := by decide +kernel
theorem dX9_many_17 : decode cX9_many 17 = .ok (.invokespecial 93, 3) := by decide +kernel
theorem dX9_many_20 : decode cX9_many 20 = .ok (.athrow, 1) := by decide +kernel
theorem dX9_many_21 : decode cX9_many 21 = .ok (.aload_n 0, 1) := by decide +kernel
theorem dX9_many_22 : decode cX9_many 22 = .ok (.iload_n 1, 1) := by decide +kernel
theorem dX9_many_23 : decode cX9_many 23 = .ok (.invokevirtual 367, 3) := by decide +kernel
theorem dX9_many_26 : decode cX9_many 26 = .ok (.ireturn, 1) := by decide +kernel
theorem dX9_wouldFetch_0 : decode cX9_wouldFetch 0 = .ok (.aload_n 0, 1) := by decide +kernel
theorem dX9_wouldFetch_1 : decode cX9_wouldFetch 1 = .ok (.aload_n 0, 1) := by decide +kernel
theorem dX9_wouldFetch_2 : decode cX9_wouldFetch 2 = .ok (.iload_n 1, 1) := by decide +kernel
theorem dX9_wouldFetch_3 : decode cX9_wouldFetch 3 = .ok (.invokevirtual 140, 3) := by decide +kernel
theorem dX9_wouldFetch_6 : decode cX9_wouldFetch 6 = .ok (.invokevirtual 374, 3) := by decide +kernel
theorem dX9_wouldFetch_9 : decode cX9_wouldFetch 9 = .ok (.ireturn, 1) := by decide +kernel
theorem dX9_bestMinimum_0 : decode cX9_bestMinimum 0 = .ok (.aload_n 0, 1) := by decide +kernel
theorem dX9_bestMinimum_1 : decode cX9_bestMinimum 1 = .ok (.aload_n 0, 1) := by decide +kernel
theorem dX9_bestMinimum_2 : decode cX9_bestMinimum 2 = .ok (.iload_n 1, 1) := by decide +kernel
theorem dX9_bestMinimum_3 : decode cX9_bestMinimum 3 = .ok (.invokevirtual 140, 3) := by decide +kernel
theorem dX9_bestMinimum_6 : decode cX9_bestMinimum 6 = .ok (.invokevirtual 378, 3) := by decide +kernel
theorem dX9_bestMinimum_9 : decode cX9_bestMinimum 9 = .ok (.ireturn, 1) := by decide +kernel
theorem dX9_readyIn_0 : decode cX9_readyIn 0 = .ok (.aload_n 0, 1) := by decide +kernel
theorem dX9_readyIn_1 : decode cX9_readyIn 1 = .ok (.aload_n 0, 1) := by decide +kernel
theorem dX9_readyIn_2 : decode cX9_readyIn 2 = .ok (.iload_n 1, 1) := by decide +kernel
theorem dX9_readyIn_3 : decode cX9_readyIn 3 = .ok (.invokevirtual 110, 3) := by decide +kernel
theorem dX9_readyIn_6 : decode cX9_readyIn 6 = .ok (.invokevirtual 381, 3) := by decide +kernel
theorem dX9_readyIn_9 : decode cX9_readyIn 9 = .ok (.ireturn, 1) := by decide +kernel
theorem dX9_digest_0 : decode cX9_digest 0 = .ok (.ldc2_w 390, 3) := by decide +kernel
theorem dX9_digest_3 : decode cX9_digest 3 = .ok (.lstore_n 1, 1) := by decide +kernel
theorem dX9_digest_4 : decode cX9_digest 4 = .ok (.iconst 0, 1) := by decide +kernel
theorem dX9_digest_5 : decode cX9_digest 5 = .ok (.istore_n 3, 1) := by decide +kernel
theorem dX9_digest_6 : decode cX9_digest 6 = .ok (.iload_n 3, 1) := by decide +kernel
theorem dX9_digest_7 : decode cX9_digest 7 = .ok (.bipush 15, 2) := by decide +kernel
theorem dX9_digest_9 : decode cX9_digest 9 = .ok (.if_icmp .gt 20, 3) := by decide +kernel
theorem dX9_digest_12 : decode cX9_digest 12 = .ok (.lload_n 1, 1) := by decide +kernel
theorem dX9_digest_13 : decode cX9_digest 13 = .ok (.aload_n 0, 1) := by decide +kernel
theorem dX9_digest_14 : decode cX9_digest 14 = .ok (.iload_n 3, 1) := by decide +kernel
theorem dX9_digest_15 : decode cX9_digest 15 = .ok (.invokevirtual 367, 3) := by decide +kernel
theorem dX9_digest_18 : decode cX9_digest 18 = .ok (.i2l, 1) := by decide +kernel
theorem dX9_digest_19 : decode cX9_digest 19 = .ok (.invokestatic 392, 3) := by decide +kernel
theorem dX9_digest_22 : decode cX9_digest 22 = .ok (.lstore_n 1, 1) := by decide +kernel
theorem dX9_digest_23 : decode cX9_digest 23 = .ok (.iinc 3 1, 3) := by decide +kernel
theorem dX9_digest_26 : decode cX9_digest 26 = .ok (.goto (-20), 3) := by decide +kernel
theorem dX9_digest_29 : decode cX9_digest 29 = .ok (.aload_n 0, 1) := by decide +kernel
theorem dX9_digest_30 : decode cX9_digest 30 = .ok (.lload_n 1, 1) := by decide +kernel
theorem dX9_digest_31 : decode cX9_digest 31 = .ok (.invokevirtual 396, 3) := by decide +kernel
theorem dX9_digest_34 : decode cX9_digest 34 = .ok (.lstore_n 1, 1) := by decide +kernel
theorem dX9_digest_35 : decode cX9_digest 35 = .ok (.aload_n 0, 1) := by decide +kernel
theorem dX9_digest_36 : decode cX9_digest 36 = .ok (.lload_n 1, 1) := by decide +kernel
theorem dX9_digest_37 : decode cX9_digest 37 = .ok (.invokevirtual 400, 3) := by decide +kernel
theorem dX9_digest_40 : decode cX9_digest 40 = .ok (.lstore_n 1, 1) := by decide +kernel
theorem dX9_digest_41 : decode cX9_digest 41 = .ok (.aload_n 0, 1) := by decide +kernel
theorem dX9_digest_42 : decode cX9_digest 42 = .ok (.lload_n 1, 1) := by decide +kernel
theorem dX9_digest_43 : decode cX9_digest 43 = .ok (.invokevirtual 403, 3) := by decide +kernel
theorem dX9_digest_46 : decode cX9_digest 46 = .ok (.lstore_n 1, 1) := by decide +kernel
theorem dX9_digest_47 : decode cX9_digest 47 = .ok (.iconst 0, 1) := by decide +kernel
theorem dX9_digest_48 : decode cX9_digest 48 = .ok (.istore_n 3, 1) := by decide +kernel
theorem dX9_digest_49 : decode cX9_digest 49 = .ok (.iload_n 3, 1) := by decide +kernel
theorem dX9_digest_50 : decode cX9_digest 50 = .ok (.iconst 2, 1) := by decide +kernel
theorem dX9_digest_51 : decode cX9_digest 51 = .ok (.if_icmp .gt 20, 3) := by decide +kernel
theorem dX9_digest_54 : decode cX9_digest 54 = .ok (.lload_n 1, 1) := by decide +kernel
theorem dX9_digest_55 : decode cX9_digest 55 = .ok (.aload_n 0, 1) := by decide +kernel
theorem dX9_digest_56 : decode cX9_digest 56 = .ok (.iload_n 3, 1) := by decide +kernel
theorem dX9_digest_57 : decode cX9_digest 57 = .ok (.invokevirtual 362, 3) := by decide +kernel
theorem dX9_digest_60 : decode cX9_digest 60 = .ok (.i2l, 1) := by decide +kernel
theorem dX9_digest_61 : decode cX9_digest 61 = .ok (.invokestatic 392, 3) := by decide +kernel
theorem dX9_digest_64 : decode cX9_digest 64 = .ok (.lstore_n 1, 1) := by decide +kernel
theorem dX9_digest_65 : decode cX9_digest 65 = .ok (.iinc 3 1, 3) := by decide +kernel
theorem dX9_digest_68 : decode cX9_digest 68 = .ok (.goto (-19), 3) := by decide +kernel
theorem dX9_digest_71 : decode cX9_digest 71 = .ok (.iconst 0, 1) := by decide +kernel
theorem dX9_digest_72 : decode cX9_digest 72 = .ok (.istore_n 3, 1) := by decide +kernel
theorem dX9_digest_73 : decode cX9_digest 73 = .ok (.iload_n 3, 1) := by decide +kernel
theorem dX9_digest_74 : decode cX9_digest 74 = .ok (.iconst 3, 1) := by decide +kernel
theorem dX9_digest_75 : decode cX9_digest 75 = .ok (.if_icmp .ge 22, 3) := by decide +kernel
theorem dX9_digest_78 : decode cX9_digest 78 = .ok (.lload_n 1, 1) := by decide +kernel
theorem dX9_digest_79 : decode cX9_digest 79 = .ok (.aload_n 0, 1) := by decide +kernel
theorem dX9_digest_80 : decode cX9_digest 80 = .ok (.iload_n 3, 1) := by decide +kernel
theorem dX9_digest_81 : decode cX9_digest 81 = .ok (.bipush 12, 2) := by decide +kernel
theorem dX9_digest_83 : decode cX9_digest 83 = .ok (.invokevirtual 387, 3) := by decide +kernel
theorem dX9_digest_86 : decode cX9_digest 86 = .ok (.i2l, 1) := by decide +kernel
theorem dX9_digest_87 : decode cX9_digest 87 = .ok (.invokestatic 392, 3) := by decide +kernel
theorem dX9_digest_90 : decode cX9_digest 90 = .ok (.lstore_n 1, 1) := by decide +kernel
theorem dX9_digest_91 : decode cX9_digest 91 = .ok (.iinc 3 1, 3) := by decide +kernel
theorem dX9_digest_94 : decode cX9_digest 94 = .ok (.goto (-21), 3) := by decide +kernel
theorem dX9_digest_97 : decode cX9_digest 97 = .ok (.lload_n 1, 1) := by decide +kernel
theorem dX9_digest_98 : decode cX9_digest 98 = .ok (.lreturn, 1) := by decide +kernel
theorem dX9_growerAt_0 : decode cX9_growerAt 0 = .ok (.iload_n 1, 1) := by decide +kernel
theorem dX9_growerAt_1 : decode cX9_growerAt 1 = .ok (.ifCond .lt 14, 3) := by decide +kernel
theorem dX9_growerAt_4 : decode cX9_growerAt 4 = .ok (.iload_n 1, 1) := by decide +kernel
theorem dX9_growerAt_5 : decode cX9_growerAt 5 = .ok (.aload_n 0, 1) := by decide +kernel
theorem dX9_growerAt_6 : decode cX9_growerAt 6 = .ok (.getfield 10, 3) := by decide +kernel
theorem dX9_growerAt_9 : decode cX9_growerAt 9 = .ok (.invokevirtual 63, 3) := by decide +kernel
theorem dX9_growerAt_12 : decode cX9_growerAt 12 = .ok (.if_icmp .lt 14, 3) := by decide +kernel
theorem dX9_growerAt_15 : decode cX9_growerAt 15 = .ok (.new 328, 3) := by decide +kernel
theorem dX9_growerAt_18 : decode cX9_growerAt 18 = .ok (.dup, 1) := by decide +kernel
theorem dX9_growerAt_19 : decode cX9_growerAt 19 = .ok (.ldc_w 406, 3) := by decide +kernel
theorem dX9_growerAt_22 : decode cX9_growerAt 22 = .ok (.invokespecial 332, 3) := by decide +kernel
theorem dX9_growerAt_25 : decode cX9_growerAt 25 = .ok (.athrow, 1) := by decide +kernel
theorem dX9_growerAt_26 : decode cX9_growerAt 26 = .ok (.aload_n 0, 1) := by decide +kernel
theorem dX9_growerAt_27 : decode cX9_growerAt 27 = .ok (.getfield 10, 3) := by decide +kernel
theorem dX9_growerAt_30 : decode cX9_growerAt 30 = .ok (.iload_n 1, 1) := by decide +kernel
theorem dX9_growerAt_31 : decode cX9_growerAt 31 = .ok (.invokevirtual 279, 3) := by decide +kernel
theorem dX9_growerAt_34 : decode cX9_growerAt 34 = .ok (.checkcast 74, 3) := by decide +kernel
theorem dX9_growerAt_37 : decode cX9_growerAt 37 = .ok (.areturn, 1) := by decide +kernel
theorem dX9_cropAt_0 : decode cX9_cropAt 0 = .ok (.iload_n 1, 1) := by decide +kernel
theorem dX9_cropAt_1 : decode cX9_cropAt 1 = .ok (.ifCond .lt 14, 3) := by decide +kernel
theorem dX9_cropAt_4 : decode cX9_cropAt 4 = .ok (.iload_n 1, 1) := by decide +kernel
theorem dX9_cropAt_5 : decode cX9_cropAt 5 = .ok (.aload_n 0, 1) := by decide +kernel
theorem dX9_cropAt_6 : decode cX9_cropAt 6 = .ok (.getfield 16, 3) := by decide +kernel
theorem dX9_cropAt_9 : decode cX9_cropAt 9 = .ok (.invokevirtual 63, 3) := by decide +kernel
theorem dX9_cropAt_12 : decode cX9_cropAt 12 = .ok (.if_icmp .lt 14, 3) := by decide +kernel
theorem dX9_cropAt_15 : decode cX9_cropAt 15 = .ok (.new 328, 3) := by decide +kernel
theorem dX9_cropAt_18 : decode cX9_cropAt 18 = .ok (.dup, 1) := by decide +kernel
theorem dX9_cropAt_19 : decode cX9_cropAt 19 = .ok (.ldc_w 408, 3) := by decide +kernel
theorem dX9_cropAt_22 : decode cX9_cropAt 22 = .ok (.invokespecial 332, 3) := by decide +kernel
theorem dX9_cropAt_25 : decode cX9_cropAt 25 = .ok (.athrow, 1) := by decide +kernel
theorem dX9_cropAt_26 : decode cX9_cropAt 26 = .ok (.aload_n 0, 1) := by decide +kernel
theorem dX9_cropAt_27 : decode cX9_cropAt 27 = .ok (.getfield 16, 3) := by decide +kernel
theorem dX9_cropAt_30 : decode cX9_cropAt 30 = .ok (.iload_n 1, 1) := by decide +kernel
theorem dX9_cropAt_31 : decode cX9_cropAt 31 = .ok (.invokevirtual 279, 3) := by decide +kernel
theorem dX9_cropAt_34 : decode cX9_cropAt 34 = .ok (.checkcast 105, 3) := by decide +kernel
theorem dX9_cropAt_37 : decode cX9_cropAt 37 = .ok (.areturn, 1) := by decide +kernel
theorem dX9_lotAt_0 : decode cX9_lotAt 0 = .ok (.iload_n 1, 1) := by decide +kernel
theorem dX9_lotAt_1 : decode cX9_lotAt 1 = .ok (.ifCond .lt 14, 3) := by decide +kernel
theorem dX9_lotAt_4 : decode cX9_lotAt 4 = .ok (.iload_n 1, 1) := by decide +kernel
theorem dX9_lotAt_5 : decode cX9_lotAt 5 = .ok (.aload_n 0, 1) := by decide +kernel
theorem dX9_lotAt_6 : decode cX9_lotAt 6 = .ok (.getfield 19, 3) := by decide +kernel
theorem dX9_lotAt_9 : decode cX9_lotAt 9 = .ok (.invokevirtual 63, 3) := by decide +kernel
theorem dX9_lotAt_12 : decode cX9_lotAt 12 = .ok (.if_icmp .lt 14, 3) := by decide +kernel
theorem dX9_lotAt_15 : decode cX9_lotAt 15 = .ok (.new 328, 3) := by decide +kernel
theorem dX9_lotAt_18 : decode cX9_lotAt 18 = .ok (.dup, 1) := by decide +kernel
theorem dX9_lotAt_19 : decode cX9_lotAt 19 = .ok (.ldc_w 410, 3) := by decide +kernel
theorem dX9_lotAt_22 : decode cX9_lotAt 22 = .ok (.invokespecial 332, 3) := by decide +kernel
theorem dX9_lotAt_25 : decode cX9_lotAt 25 = .ok (.athrow, 1) := by decide +kernel
theorem dX9_lotAt_26 : decode cX9_lotAt 26 = .ok (.aload_n 0, 1) := by decide +kernel
theorem dX9_lotAt_27 : decode cX9_lotAt 27 = .ok (.getfield 19, 3) := by decide +kernel
theorem dX9_lotAt_30 : decode cX9_lotAt 30 = .ok (.iload_n 1, 1) := by decide +kernel
theorem dX9_lotAt_31 : decode cX9_lotAt 31 = .ok (.invokevirtual 279, 3) := by decide +kernel
theorem dX9_lotAt_34 : decode cX9_lotAt 34 = .ok (.checkcast 129, 3) := by decide +kernel
theorem dX9_lotAt_37 : decode cX9_lotAt 37 = .ok (.areturn, 1) := by decide +kernel
theorem dX9_buyerAt_0 : decode cX9_buyerAt 0 = .ok (.iload_n 1, 1) := by decide +kernel
theorem dX9_buyerAt_1 : decode cX9_buyerAt 1 = .ok (.ifCond .lt 14, 3) := by decide +kernel
theorem dX9_buyerAt_4 : decode cX9_buyerAt 4 = .ok (.iload_n 1, 1) := by decide +kernel
theorem dX9_buyerAt_5 : decode cX9_buyerAt 5 = .ok (.aload_n 0, 1) := by decide +kernel
theorem dX9_buyerAt_6 : decode cX9_buyerAt 6 = .ok (.getfield 25, 3) := by decide +kernel
theorem dX9_buyerAt_9 : decode cX9_buyerAt 9 = .ok (.invokevirtual 63, 3) := by decide +kernel
theorem dX9_buyerAt_12 : decode cX9_buyerAt 12 = .ok (.if_icmp .lt 14, 3) := by decide +kernel
theorem dX9_buyerAt_15 : decode cX9_buyerAt 15 = .ok (.new 328, 3) := by decide +kernel
theorem dX9_buyerAt_18 : decode cX9_buyerAt 18 = .ok (.dup, 1) := by decide +kernel
theorem dX9_buyerAt_19 : decode cX9_buyerAt 19 = .ok (.ldc_w 412, 3) := by decide +kernel
theorem dX9_buyerAt_22 : decode cX9_buyerAt 22 = .ok (.invokespecial 332, 3) := by decide +kernel
theorem dX9_buyerAt_25 : decode cX9_buyerAt 25 = .ok (.athrow, 1) := by decide +kernel
theorem dX9_buyerAt_26 : decode cX9_buyerAt 26 = .ok (.aload_n 0, 1) := by decide +kernel
theorem dX9_buyerAt_27 : decode cX9_buyerAt 27 = .ok (.getfield 25, 3) := by decide +kernel
theorem dX9_buyerAt_30 : decode cX9_buyerAt 30 = .ok (.iload_n 1, 1) := by decide +kernel
theorem dX9_buyerAt_31 : decode cX9_buyerAt 31 = .ok (.invokevirtual 279, 3) := by decide +kernel
theorem dX9_buyerAt_34 : decode cX9_buyerAt 34 = .ok (.checkcast 210, 3) := by decide +kernel
theorem dX9_buyerAt_37 : decode cX9_buyerAt 37 = .ok (.areturn, 1) := by decide +kernel
theorem dX9_isWithin_0 : decode cX9_isWithin 0 = .ok (.iload_n 0, 1) := by decide +kernel
theorem dX9_isWithin_1 : decode cX9_isWithin 1 = .ok (.iload_n 1, 1) := by decide +kernel
theorem dX9_isWithin_2 : decode cX9_isWithin 2 = .ok (.if_icmp .lt 12, 3) := by decide +kernel
theorem dX9_isWithin_5 : decode cX9_isWithin 5 = .ok (.iload_n 0, 1) := by decide +kernel
theorem dX9_isWithin_6 : decode cX9_isWithin 6 = .ok (.iload_n 2, 1) := by decide +kernel
theorem dX9_isWithin_7 : decode cX9_isWithin 7 = .ok (.if_icmp .gt 7, 3) := by decide +kernel
theorem dX9_isWithin_10 : decode cX9_isWithin 10 = .ok (.iconst 1, 1) := by decide +kernel
theorem dX9_isWithin_11 : decode cX9_isWithin 11 = .ok (.goto 4, 3) := by decide +kernel
theorem dX9_isWithin_14 : decode cX9_isWithin 14 = .ok (.iconst 0, 1) := by decide +kernel
theorem dX9_isWithin_15 : decode cX9_isWithin 15 = .ok (.ireturn, 1) := by decide +kernel
theorem dX9_isCultivar_0 : decode cX9_isCultivar 0 = .ok (.iload_n 0, 1) := by decide +kernel
theorem dX9_isCultivar_1 : decode cX9_isCultivar 1 = .ok (.ifCond .lt 12, 3) := by decide +kernel
theorem dX9_isCultivar_4 : decode cX9_isCultivar 4 = .ok (.iload_n 0, 1) := by decide +kernel
theorem dX9_isCultivar_5 : decode cX9_isCultivar 5 = .ok (.iconst 3, 1) := by decide +kernel
theorem dX9_isCultivar_6 : decode cX9_isCultivar 6 = .ok (.if_icmp .ge 7, 3) := by decide +kernel
theorem dX9_isCultivar_9 : decode cX9_isCultivar 9 = .ok (.iconst 1, 1) := by decide +kernel
theorem dX9_isCultivar_10 : decode cX9_isCultivar 10 = .ok (.goto 4, 3) := by decide +kernel
theorem dX9_isCultivar_13 : decode cX9_isCultivar 13 = .ok (.iconst 0, 1) := by decide +kernel
theorem dX9_isCultivar_14 : decode cX9_isCultivar 14 = .ok (.ireturn, 1) := by decide +kernel
theorem dX9_passOneHour_0 : decode cX9_passOneHour 0 = .ok (.aload_n 0, 1) := by decide +kernel
theorem dX9_passOneHour_1 : decode cX9_passOneHour 1 = .ok (.dup, 1) := by decide +kernel
theorem dX9_passOneHour_2 : decode cX9_passOneHour 2 = .ok (.getfield 287, 3) := by decide +kernel
theorem dX9_passOneHour_5 : decode cX9_passOneHour 5 = .ok (.iconst 1, 1) := by decide +kernel
theorem dX9_passOneHour_6 : decode cX9_passOneHour 6 = .ok (.iadd, 1) := by decide +kernel
theorem dX9_passOneHour_7 : decode cX9_passOneHour 7 = .ok (.putfield 287, 3) := by decide +kernel
theorem dX9_passOneHour_10 : decode cX9_passOneHour 10 = .ok (.aload_n 0, 1) := by decide +kernel
theorem dX9_passOneHour_11 : decode cX9_passOneHour 11 = .ok (.getfield 287, 3) := by decide +kernel
theorem dX9_passOneHour_14 : decode cX9_passOneHour 14 = .ok (.bipush 24, 2) := by decide +kernel
theorem dX9_passOneHour_16 : decode cX9_passOneHour 16 = .ok (.irem, 1) := by decide +kernel
theorem dX9_passOneHour_17 : decode cX9_passOneHour 17 = .ok (.ifCond .ne 7, 3) := by decide +kernel
theorem dX9_passOneHour_20 : decode cX9_passOneHour 20 = .ok (.aload_n 0, 1) := by decide +kernel
theorem dX9_passOneHour_21 : decode cX9_passOneHour 21 = .ok (.invokevirtual 414, 3) := by decide +kernel
theorem dX9_passOneHour_24 : decode cX9_passOneHour 24 = .ok (.aload_n 0, 1) := by decide +kernel
theorem dX9_passOneHour_25 : decode cX9_passOneHour 25 = .ok (.invokevirtual 417, 3) := by decide +kernel
theorem dX9_passOneHour_28 : decode cX9_passOneHour 28 = .ok (.aload_n 0, 1) := by decide +kernel
theorem dX9_passOneHour_29 : decode cX9_passOneHour 29 = .ok (.invokevirtual 420, 3) := by decide +kernel
theorem dX9_passOneHour_32 : decode cX9_passOneHour 32 = .ok (.aload_n 0, 1) := by decide +kernel
theorem dX9_passOneHour_33 : decode cX9_passOneHour 33 = .ok (.invokevirtual 423, 3) := by decide +kernel
theorem dX9_passOneHour_36 : decode cX9_passOneHour 36 = .ok (.aload_n 0, 1) := by decide +kernel
theorem dX9_passOneHour_37 : decode cX9_passOneHour 37 = .ok (.invokevirtual 426, 3) := by decide +kernel
theorem dX9_passOneHour_40 : decode cX9_passOneHour 40 = .ok (.ireturn, 1) := by decide +kernel
theorem dX9_beginDay_0 : decode cX9_beginDay 0 = .ok (.iconst 0, 1) := by decide +kernel
theorem dX9_beginDay_1 : decode cX9_beginDay 1 = .ok (.istore_n 1, 1) := by decide +kernel
theorem dX9_beginDay_2 : decode cX9_beginDay 2 = .ok (.iload_n 1, 1) := by decide +kernel
theorem dX9_beginDay_3 : decode cX9_beginDay 3 = .ok (.aload_n 0, 1) := by decide +kernel
theorem dX9_beginDay_4 : decode cX9_beginDay 4 = .ok (.getfield 10, 3) := by decide +kernel
theorem dX9_beginDay_7 : decode cX9_beginDay 7 = .ok (.invokevirtual 63, 3) := by decide +kernel
theorem dX9_beginDay_10 : decode cX9_beginDay 10 = .ok (.if_icmp .ge 27, 3) := by decide +kernel
theorem dX9_beginDay_13 : decode cX9_beginDay 13 = .ok (.aload_n 0, 1) := by decide +kernel
theorem dX9_beginDay_14 : decode cX9_beginDay 14 = .ok (.getfield 10, 3) := by decide +kernel
theorem dX9_beginDay_17 : decode cX9_beginDay 17 = .ok (.iload_n 1, 1) := by decide +kernel
theorem dX9_beginDay_18 : decode cX9_beginDay 18 = .ok (.invokevirtual 279, 3) := by decide +kernel
theorem dX9_beginDay_21 : decode cX9_beginDay 21 = .ok (.checkcast 74, 3) := by decide +kernel
theorem dX9_beginDay_24 : decode cX9_beginDay 24 = .ok (.getfield 165, 3) := by decide +kernel
theorem dX9_beginDay_27 : decode cX9_beginDay 27 = .ok (.iconst 0, 1) := by decide +kernel
theorem dX9_beginDay_28 : decode cX9_beginDay 28 = .ok (.invokevirtual 429, 3) := by decide +kernel
theorem dX9_beginDay_31 : decode cX9_beginDay 31 = .ok (.iinc 1 1, 3) := by decide +kernel
theorem dX9_beginDay_34 : decode cX9_beginDay 34 = .ok (.goto (-32), 3) := by decide +kernel
theorem dX9_beginDay_37 : decode cX9_beginDay 37 = .ok (.return_, 1) := by decide +kernel
theorem dX9_growCrops_0 : decode cX9_growCrops 0 = .ok (.iconst 0, 1) := by decide +kernel
theorem dX9_growCrops_1 : decode cX9_growCrops 1 = .ok (.istore_n 1, 1) := by decide +kernel
theorem dX9_growCrops_2 : decode cX9_growCrops 2 = .ok (.iload_n 1, 1) := by decide +kernel
theorem dX9_growCrops_3 : decode cX9_growCrops 3 = .ok (.aload_n 0, 1) := by decide +kernel
theorem dX9_growCrops_4 : decode cX9_growCrops 4 = .ok (.getfield 16, 3) := by decide +kernel
theorem dX9_growCrops_7 : decode cX9_growCrops 7 = .ok (.invokevirtual 63, 3) := by decide +kernel
theorem dX9_growCrops_10 : decode cX9_growCrops 10 = .ok (.if_icmp .ge 37, 3) := by decide +kernel
theorem dX9_growCrops_13 : decode cX9_growCrops 13 = .ok (.aload_n 0, 1) := by decide +kernel
theorem dX9_growCrops_14 : decode cX9_growCrops 14 = .ok (.getfield 16, 3) := by decide +kernel
theorem dX9_growCrops_17 : decode cX9_growCrops 17 = .ok (.iload_n 1, 1) := by decide +kernel
theorem dX9_growCrops_18 : decode cX9_growCrops 18 = .ok (.invokevirtual 279, 3) := by decide +kernel
theorem dX9_growCrops_21 : decode cX9_growCrops 21 = .ok (.checkcast 105, 3) := by decide +kernel
theorem dX9_growCrops_24 : decode cX9_growCrops 24 = .ok (.astore_n 2, 1) := by decide +kernel
theorem dX9_growCrops_25 : decode cX9_growCrops 25 = .ok (.aload_n 2, 1) := by decide +kernel
theorem dX9_growCrops_26 : decode cX9_growCrops 26 = .ok (.aload_n 0, 1) := by decide +kernel
theorem dX9_growCrops_27 : decode cX9_growCrops 27 = .ok (.getfield 53, 3) := by decide +kernel
theorem dX9_growCrops_30 : decode cX9_growCrops 30 = .ok (.aload_n 2, 1) := by decide +kernel
theorem dX9_growCrops_31 : decode cX9_growCrops 31 = .ok (.getfield 432, 3) := by decide +kernel
theorem dX9_growCrops_34 : decode cX9_growCrops 34 = .ok (.getfield 94, 3) := by decide +kernel
theorem dX9_growCrops_37 : decode cX9_growCrops 37 = .ok (.iadd, 1) := by decide +kernel
theorem dX9_growCrops_38 : decode cX9_growCrops 38 = .ok (.invokevirtual 433, 3) := by decide +kernel
theorem dX9_growCrops_41 : decode cX9_growCrops 41 = .ok (.iinc 1 1, 3) := by decide +kernel
theorem dX9_growCrops_44 : decode cX9_growCrops 44 = .ok (.goto (-42), 3) := by decide +kernel
theorem dX9_growCrops_47 : decode cX9_growCrops 47 = .ok (.return_, 1) := by decide +kernel
theorem dX9_payForLamps_0 : decode cX9_payForLamps 0 = .ok (.iconst 0, 1) := by decide +kernel
theorem dX9_payForLamps_1 : decode cX9_payForLamps 1 = .ok (.istore_n 1, 1) := by decide +kernel
theorem dX9_payForLamps_2 : decode cX9_payForLamps 2 = .ok (.iload_n 1, 1) := by decide +kernel
theorem dX9_payForLamps_3 : decode cX9_payForLamps 3 = .ok (.aload_n 0, 1) := by decide +kernel
theorem dX9_payForLamps_4 : decode cX9_payForLamps 4 = .ok (.getfield 10, 3) := by decide +kernel
theorem dX9_payForLamps_7 : decode cX9_payForLamps 7 = .ok (.invokevirtual 63, 3) := by decide +kernel
theorem dX9_payForLamps_10 : decode cX9_payForLamps 10 = .ok (.if_icmp .ge 34, 3) := by decide +kernel
theorem dX9_payForLamps_13 : decode cX9_payForLamps 13 = .ok (.aload_n 0, 1) := by decide +kernel
theorem dX9_payForLamps_14 : decode cX9_payForLamps 14 = .ok (.getfield 10, 3) := by decide +kernel
theorem dX9_payForLamps_17 : decode cX9_payForLamps 17 = .ok (.iload_n 1, 1) := by decide +kernel
theorem dX9_payForLamps_18 : decode cX9_payForLamps 18 = .ok (.invokevirtual 279, 3) := by decide +kernel
theorem dX9_payForLamps_21 : decode cX9_payForLamps 21 = .ok (.checkcast 74, 3) := by decide +kernel
theorem dX9_payForLamps_24 : decode cX9_payForLamps 24 = .ok (.astore_n 2, 1) := by decide +kernel
theorem dX9_payForLamps_25 : decode cX9_payForLamps 25 = .ok (.aload_n 2, 1) := by decide +kernel
theorem dX9_payForLamps_26 : decode cX9_payForLamps 26 = .ok (.dup, 1) := by decide +kernel
theorem dX9_payForLamps_27 : decode cX9_payForLamps 27 = .ok (.getfield 436, 3) := by decide +kernel
theorem dX9_payForLamps_30 : decode cX9_payForLamps 30 = .ok (.aload_n 2, 1) := by decide +kernel
theorem dX9_payForLamps_31 : decode cX9_payForLamps 31 = .ok (.getfield 94, 3) := by decide +kernel
theorem dX9_payForLamps_34 : decode cX9_payForLamps 34 = .ok (.isub, 1) := by decide +kernel
theorem dX9_payForLamps_35 : decode cX9_payForLamps 35 = .ok (.putfield 436, 3) := by decide +kernel
theorem dX9_payForLamps_38 : decode cX9_payForLamps 38 = .ok (.iinc 1 1, 3) := by decide +kernel
theorem dX9_payForLamps_41 : decode cX9_payForLamps 41 = .ok (.goto (-39), 3) := by decide +kernel
theorem dX9_payForLamps_44 : decode cX9_payForLamps 44 = .ok (.return_, 1) := by decide +kernel
theorem dX9_loseLife_0 : decode cX9_loseLife 0 = .ok (.iconst 0, 1) := by decide +kernel
theorem dX9_loseLife_1 : decode cX9_loseLife 1 = .ok (.istore_n 1, 1) := by decide +kernel
theorem dX9_loseLife_2 : decode cX9_loseLife 2 = .ok (.iload_n 1, 1) := by decide +kernel
theorem dX9_loseLife_3 : decode cX9_loseLife 3 = .ok (.aload_n 0, 1) := by decide +kernel
theorem dX9_loseLife_4 : decode cX9_loseLife 4 = .ok (.getfield 19, 3) := by decide +kernel
theorem dX9_loseLife_7 : decode cX9_loseLife 7 = .ok (.invokevirtual 63, 3) := by decide +kernel
theorem dX9_loseLife_10 : decode cX9_loseLife 10 = .ok (.if_icmp .ge 48, 3) := by decide +kernel
theorem dX9_loseLife_13 : decode cX9_loseLife 13 = .ok (.aload_n 0, 1) := by decide +kernel
theorem dX9_loseLife_14 : decode cX9_loseLife 14 = .ok (.getfield 19, 3) := by decide +kernel
theorem dX9_loseLife_17 : decode cX9_loseLife 17 = .ok (.iload_n 1, 1) := by decide +kernel
theorem dX9_loseLife_18 : decode cX9_loseLife 18 = .ok (.invokevirtual 279, 3) := by decide +kernel
theorem dX9_loseLife_21 : decode cX9_loseLife 21 = .ok (.checkcast 129, 3) := by decide +kernel
theorem dX9_loseLife_24 : decode cX9_loseLife 24 = .ok (.astore_n 2, 1) := by decide +kernel
theorem dX9_loseLife_25 : decode cX9_loseLife 25 = .ok (.aload_n 2, 1) := by decide +kernel
theorem dX9_loseLife_26 : decode cX9_loseLife 26 = .ok (.getfield 174, 3) := by decide +kernel
theorem dX9_loseLife_29 : decode cX9_loseLife 29 = .ok (.ifCond .le 23, 3) := by decide +kernel
theorem dX9_loseLife_32 : decode cX9_loseLife 32 = .ok (.aload_n 2, 1) := by decide +kernel
theorem dX9_loseLife_33 : decode cX9_loseLife 33 = .ok (.iconst 0, 1) := by decide +kernel
theorem dX9_loseLife_34 : decode cX9_loseLife 34 = .ok (.aload_n 2, 1) := by decide +kernel
theorem dX9_loseLife_35 : decode cX9_loseLife 35 = .ok (.getfield 191, 3) := by decide +kernel
theorem dX9_loseLife_38 : decode cX9_loseLife 38 = .ok (.aload_n 2, 1) := by decide +kernel
theorem dX9_loseLife_39 : decode cX9_loseLife 39 = .ok (.getfield 151, 3) := by decide +kernel
theorem dX9_loseLife_42 : decode cX9_loseLife 42 = .ok (.invokestatic 437, 3) := by decide +kernel
theorem dX9_loseLife_45 : decode cX9_loseLife 45 = .ok (.isub, 1) := by decide +kernel
theorem dX9_loseLife_46 : decode cX9_loseLife 46 = .ok (.invokestatic 197, 3) := by decide +kernel
theorem dX9_loseLife_49 : decode cX9_loseLife 49 = .ok (.putfield 191, 3) := by decide +kernel
theorem dX9_loseLife_52 : decode cX9_loseLife 52 = .ok (.iinc 1 1, 3) := by decide +kernel
theorem dX9_loseLife_55 : decode cX9_loseLife 55 = .ok (.goto (-53), 3) := by decide +kernel
theorem dX9_loseLife_58 : decode cX9_loseLife 58 = .ok (.iconst 0, 1) := by decide +kernel
theorem dX9_loseLife_59 : decode cX9_loseLife 59 = .ok (.istore_n 1, 1) := by decide +kernel
theorem dX9_loseLife_60 : decode cX9_loseLife 60 = .ok (.iload_n 1, 1) := by decide +kernel
theorem dX9_loseLife_61 : decode cX9_loseLife 61 = .ok (.aload_n 0, 1) := by decide +kernel
theorem dX9_loseLife_62 : decode cX9_loseLife 62 = .ok (.getfield 31, 3) := by decide +kernel
theorem dX9_loseLife_65 : decode cX9_loseLife 65 = .ok (.invokevirtual 63, 3) := by decide +kernel
theorem dX9_loseLife_68 : decode cX9_loseLife 68 = .ok (.if_icmp .ge 35, 3) := by decide +kernel
theorem dX9_loseLife_71 : decode cX9_loseLife 71 = .ok (.aload_n 0, 1) := by decide +kernel
theorem dX9_loseLife_72 : decode cX9_loseLife 72 = .ok (.getfield 31, 3) := by decide +kernel
theorem dX9_loseLife_75 : decode cX9_loseLife 75 = .ok (.iload_n 1, 1) := by decide +kernel
theorem dX9_loseLife_76 : decode cX9_loseLife 76 = .ok (.invokevirtual 279, 3) := by decide +kernel
theorem dX9_loseLife_79 : decode cX9_loseLife 79 = .ok (.checkcast 440, 3) := by decide +kernel
theorem dX9_loseLife_82 : decode cX9_loseLife 82 = .ok (.astore_n 2, 1) := by decide +kernel
theorem dX9_loseLife_83 : decode cX9_loseLife 83 = .ok (.aload_n 2, 1) := by decide +kernel
theorem dX9_loseLife_84 : decode cX9_loseLife 84 = .ok (.iconst 0, 1) := by decide +kernel
theorem dX9_loseLife_85 : decode cX9_loseLife 85 = .ok (.aload_n 2, 1) := by decide +kernel
theorem dX9_loseLife_86 : decode cX9_loseLife 86 = .ok (.getfield 442, 3) := by decide +kernel
theorem dX9_loseLife_89 : decode cX9_loseLife 89 = .ok (.iconst 3, 1) := by decide +kernel
theorem dX9_loseLife_90 : decode cX9_loseLife 90 = .ok (.isub, 1) := by decide +kernel
theorem dX9_loseLife_91 : decode cX9_loseLife 91 = .ok (.invokestatic 197, 3) := by decide +kernel
theorem dX9_loseLife_94 : decode cX9_loseLife 94 = .ok (.putfield 442, 3) := by decide +kernel
theorem dX9_loseLife_97 : decode cX9_loseLife 97 = .ok (.iinc 1 1, 3) := by decide +kernel
theorem dX9_loseLife_100 : decode cX9_loseLife 100 = .ok (.goto (-40), 3) := by decide +kernel
theorem dX9_loseLife_103 : decode cX9_loseLife 103 = .ok (.return_, 1) := by decide +kernel
theorem dX9_lifeLostIn_0 : decode cX9_lifeLostIn 0 = .ok (.iload_n 0, 1) := by decide +kernel
theorem dX9_lifeLostIn_1 : decode cX9_lifeLostIn 1 = .ok (.lookupswitch 31 #[(0, 27), (1, 29)], 27) := by decide +kernel
theorem dX9_lifeLostIn_28 : decode cX9_lifeLostIn 28 = .ok (.iconst 1, 1) := by decide +kernel
theorem dX9_lifeLostIn_29 : decode cX9_lifeLostIn 29 = .ok (.ireturn, 1) := by decide +kernel
theorem dX9_lifeLostIn_30 : decode cX9_lifeLostIn 30 = .ok (.iconst 3, 1) := by decide +kernel
theorem dX9_lifeLostIn_31 : decode cX9_lifeLostIn 31 = .ok (.ireturn, 1) := by decide +kernel
theorem dX9_lifeLostIn_32 : decode cX9_lifeLostIn 32 = .ok (.bipush 6, 2) := by decide +kernel
theorem dX9_lifeLostIn_34 : decode cX9_lifeLostIn 34 = .ok (.ireturn, 1) := by decide +kernel
theorem dX9_runRail_0 : decode cX9_runRail 0 = .ok (.iconst 0, 1) := by decide +kernel
theorem dX9_runRail_1 : decode cX9_runRail 1 = .ok (.istore_n 1, 1) := by decide +kernel
theorem dX9_runRail_2 : decode cX9_runRail 2 = .ok (.iload_n 1, 1) := by decide +kernel
theorem dX9_runRail_3 : decode cX9_runRail 3 = .ok (.aload_n 0, 1) := by decide +kernel
theorem dX9_runRail_4 : decode cX9_runRail 4 = .ok (.getfield 60, 3) := by decide +kernel
theorem dX9_runRail_7 : decode cX9_runRail 7 = .ok (.if_icmp .ge 37, 3) := by decide +kernel
theorem dX9_runRail_10 : decode cX9_runRail 10 = .ok (.aload_n 0, 1) := by decide +kernel
theorem dX9_runRail_11 : decode cX9_runRail 11 = .ok (.getfield 31, 3) := by decide +kernel
theorem dX9_runRail_14 : decode cX9_runRail 14 = .ok (.invokevirtual 237, 3) := by decide +kernel
theorem dX9_runRail_17 : decode cX9_runRail 17 = .ok (.ifCond .ne 27, 3) := by decide +kernel
theorem dX9_runRail_20 : decode cX9_runRail 20 = .ok (.aload_n 0, 1) := by decide +kernel
theorem dX9_runRail_21 : decode cX9_runRail 21 = .ok (.aload_n 0, 1) := by decide +kernel
theorem dX9_runRail_22 : decode cX9_runRail 22 = .ok (.getfield 31, 3) := by decide +kernel
theorem dX9_runRail_25 : decode cX9_runRail 25 = .ok (.aload_n 0, 1) := by decide +kernel
theorem dX9_runRail_26 : decode cX9_runRail 26 = .ok (.invokevirtual 443, 3) := by decide +kernel
theorem dX9_runRail_29 : decode cX9_runRail 29 = .ok (.invokevirtual 243, 3) := by decide +kernel
theorem dX9_runRail_32 : decode cX9_runRail 32 = .ok (.checkcast 440, 3) := by decide +kernel
theorem dX9_runRail_35 : decode cX9_runRail 35 = .ok (.invokevirtual 446, 3) := by decide +kernel
theorem dX9_runRail_38 : decode cX9_runRail 38 = .ok (.iinc 1 1, 3) := by decide +kernel
theorem dX9_runRail_41 : decode cX9_runRail 41 = .ok (.goto (-39), 3) := by decide +kernel
theorem dX9_runRail_44 : decode cX9_runRail 44 = .ok (.iload_n 1, 1) := by decide +kernel
theorem dX9_runRail_45 : decode cX9_runRail 45 = .ok (.ireturn, 1) := by decide +kernel
theorem dX9_nextOnRail_0 : decode cX9_nextOnRail 0 = .ok (.iconst 0, 1) := by decide +kernel
theorem dX9_nextOnRail_1 : decode cX9_nextOnRail 1 = .ok (.istore_n 1, 1) := by decide +kernel
theorem dX9_nextOnRail_2 : decode cX9_nextOnRail 2 = .ok (.sipush 10000, 3) := by decide +kernel
theorem dX9_nextOnRail_5 : decode cX9_nextOnRail 5 = .ok (.istore_n 2, 1) := by decide +kernel
theorem dX9_nextOnRail_6 : decode cX9_nextOnRail 6 = .ok (.iconst 0, 1) := by decide +kernel
theorem dX9_nextOnRail_7 : decode cX9_nextOnRail 7 = .ok (.istore_n 3, 1) := by decide +kernel
theorem dX9_nextOnRail_8 : decode cX9_nextOnRail 8 = .ok (.iload_n 3, 1) := by decide +kernel
theorem dX9_nextOnRail_9 : decode cX9_nextOnRail 9 = .ok (.aload_n 0, 1) := by decide +kernel
theorem dX9_nextOnRail_10 : decode cX9_nextOnRail 10 = .ok (.getfield 31, 3) := by decide +kernel
theorem dX9_nextOnRail_13 : decode cX9_nextOnRail 13 = .ok (.invokevirtual 63, 3) := by decide +kernel
theorem dX9_nextOnRail_16 : decode cX9_nextOnRail 16 = .ok (.if_icmp .ge 45, 3) := by decide +kernel
theorem dX9_nextOnRail_19 : decode cX9_nextOnRail 19 = .ok (.aload_n 0, 1) := by decide +kernel
theorem dX9_nextOnRail_20 : decode cX9_nextOnRail 20 = .ok (.getfield 31, 3) := by decide +kernel
theorem dX9_nextOnRail_23 : decode cX9_nextOnRail 23 = .ok (.iload_n 3, 1) := by decide +kernel
theorem dX9_nextOnRail_24 : decode cX9_nextOnRail 24 = .ok (.invokevirtual 279, 3) := by decide +kernel
theorem dX9_nextOnRail_27 : decode cX9_nextOnRail 27 = .ok (.checkcast 440, 3) := by decide +kernel
theorem dX9_nextOnRail_30 : decode cX9_nextOnRail 30 = .ok (.getfield 450, 3) := by decide +kernel
theorem dX9_nextOnRail_33 : decode cX9_nextOnRail 33 = .ok (.getfield 225, 3) := by decide +kernel
theorem dX9_nextOnRail_36 : decode cX9_nextOnRail 36 = .ok (.istore 4, 2) := by decide +kernel
theorem dX9_nextOnRail_38 : decode cX9_nextOnRail 38 = .ok (.iload 4, 2) := by decide +kernel
theorem dX9_nextOnRail_40 : decode cX9_nextOnRail 40 = .ok (.iconst (-1), 1) := by decide +kernel
theorem dX9_nextOnRail_41 : decode cX9_nextOnRail 41 = .ok (.if_icmp .eq 14, 3) := by decide +kernel
theorem dX9_nextOnRail_44 : decode cX9_nextOnRail 44 = .ok (.iload 4, 2) := by decide +kernel
theorem dX9_nextOnRail_46 : decode cX9_nextOnRail 46 = .ok (.iload_n 2, 1) := by decide +kernel
theorem dX9_nextOnRail_47 : decode cX9_nextOnRail 47 = .ok (.if_icmp .ge 8, 3) := by decide +kernel
theorem dX9_nextOnRail_50 : decode cX9_nextOnRail 50 = .ok (.iload_n 3, 1) := by decide +kernel
theorem dX9_nextOnRail_51 : decode cX9_nextOnRail 51 = .ok (.istore_n 1, 1) := by decide +kernel
theorem dX9_nextOnRail_52 : decode cX9_nextOnRail 52 = .ok (.iload 4, 2) := by decide +kernel
theorem dX9_nextOnRail_54 : decode cX9_nextOnRail 54 = .ok (.istore_n 2, 1) := by decide +kernel
theorem dX9_nextOnRail_55 : decode cX9_nextOnRail 55 = .ok (.iinc 3 1, 3) := by decide +kernel
theorem dX9_nextOnRail_58 : decode cX9_nextOnRail 58 = .ok (.goto (-50), 3) := by decide +kernel
theorem dX9_nextOnRail_61 : decode cX9_nextOnRail 61 = .ok (.iload_n 1, 1) := by decide +kernel
theorem dX9_nextOnRail_62 : decode cX9_nextOnRail 62 = .ok (.ireturn, 1) := by decide +kernel
theorem dX9_unload_0 : decode cX9_unload 0 = .ok (.aload_n 1, 1) := by decide +kernel
theorem dX9_unload_1 : decode cX9_unload 1 = .ok (.getfield 450, 3) := by decide +kernel
theorem dX9_unload_4 : decode cX9_unload 4 = .ok (.astore_n 2, 1) := by decide +kernel
theorem dX9_unload_5 : decode cX9_unload 5 = .ok (.aload_n 2, 1) := by decide +kernel
theorem dX9_unload_6 : decode cX9_unload 6 = .ok (.getfield 225, 3) := by decide +kernel
theorem dX9_unload_9 : decode cX9_unload 9 = .ok (.iconst (-1), 1) := by decide +kernel
theorem dX9_unload_10 : decode cX9_unload 10 = .ok (.if_icmp .eq 30, 3) := by decide +kernel
theorem dX9_unload_13 : decode cX9_unload 13 = .ok (.aload_n 2, 1) := by decide +kernel
theorem dX9_unload_14 : decode cX9_unload 14 = .ok (.getfield 225, 3) := by decide +kernel
theorem dX9_unload_17 : decode cX9_unload 17 = .ok (.aload_n 0, 1) := by decide +kernel
theorem dX9_unload_18 : decode cX9_unload 18 = .ok (.getfield 287, 3) := by decide +kernel
theorem dX9_unload_21 : decode cX9_unload 21 = .ok (.if_icmp .ge 19, 3) := by decide +kernel
theorem dX9_unload_24 : decode cX9_unload 24 = .ok (.aload_n 0, 1) := by decide +kernel
theorem dX9_unload_25 : decode cX9_unload 25 = .ok (.dup, 1) := by decide +kernel
theorem dX9_unload_26 : decode cX9_unload 26 = .ok (.getfield 325, 3) := by decide +kernel
theorem dX9_unload_29 : decode cX9_unload 29 = .ok (.aload_n 1, 1) := by decide +kernel
theorem dX9_unload_30 : decode cX9_unload 30 = .ok (.getfield 451, 3) := by decide +kernel
theorem dX9_unload_33 : decode cX9_unload 33 = .ok (.iadd, 1) := by decide +kernel
theorem dX9_unload_34 : decode cX9_unload 34 = .ok (.putfield 325, 3) := by decide +kernel
theorem dX9_unload_37 : decode cX9_unload 37 = .ok (.goto 30, 3) := by decide +kernel
theorem dX9_unload_40 : decode cX9_unload 40 = .ok (.aload_n 2, 1) := by decide +kernel
theorem dX9_unload_41 : decode cX9_unload 41 = .ok (.getfield 306, 3) := by decide +kernel
theorem dX9_unload_44 : decode cX9_unload 44 = .ok (.aload_n 1, 1) := by decide +kernel
theorem dX9_unload_45 : decode cX9_unload 45 = .ok (.getfield 452, 3) := by decide +kernel
theorem dX9_unload_48 : decode cX9_unload 48 = .ok (.aload_n 2, 1) := by decide +kernel
theorem dX9_unload_49 : decode cX9_unload 49 = .ok (.getfield 306, 3) := by decide +kernel
theorem dX9_unload_52 : decode cX9_unload 52 = .ok (.aload_n 1, 1) := by decide +kernel
theorem dX9_unload_53 : decode cX9_unload 53 = .ok (.getfield 452, 3) := by decide +kernel
theorem dX9_unload_56 : decode cX9_unload 56 = .ok (.invokevirtual 171, 3) := by decide +kernel
theorem dX9_unload_59 : decode cX9_unload 59 = .ok (.aload_n 1, 1) := by decide +kernel
theorem dX9_unload_60 : decode cX9_unload 60 = .ok (.getfield 451, 3) := by decide +kernel
theorem dX9_unload_63 : decode cX9_unload 63 = .ok (.iadd, 1) := by decide +kernel
theorem dX9_unload_64 : decode cX9_unload 64 = .ok (.invokevirtual 179, 3) := by decide +kernel
theorem dX9_unload_67 : decode cX9_unload 67 = .ok (.return_, 1) := by decide +kernel
theorem dX9_bucketsFor_0 : decode cX9_bucketsFor 0 = .ok (.iload_n 0, 1) := by decide +kernel
theorem dX9_bucketsFor_1 : decode cX9_bucketsFor 1 = .ok (.bipush 20, 2) := by decide +kernel
theorem dX9_bucketsFor_3 : decode cX9_bucketsFor 3 = .ok (.idiv, 1) := by decide +kernel
theorem dX9_bucketsFor_4 : decode cX9_bucketsFor 4 = .ok (.iload_n 0, 1) := by decide +kernel
theorem dX9_bucketsFor_5 : decode cX9_bucketsFor 5 = .ok (.bipush 20, 2) := by decide +kernel
theorem dX9_bucketsFor_7 : decode cX9_bucketsFor 7 = .ok (.irem, 1) := by decide +kernel
theorem dX9_bucketsFor_8 : decode cX9_bucketsFor 8 = .ok (.ifCond .le 7, 3) := by decide +kernel
theorem dX9_bucketsFor_11 : decode cX9_bucketsFor 11 = .ok (.iconst 1, 1) := by decide +kernel
theorem dX9_bucketsFor_12 : decode cX9_bucketsFor 12 = .ok (.goto 4, 3) := by decide +kernel
theorem dX9_bucketsFor_15 : decode cX9_bucketsFor 15 = .ok (.iconst 0, 1) := by decide +kernel
theorem dX9_bucketsFor_16 : decode cX9_bucketsFor 16 = .ok (.iadd, 1) := by decide +kernel
theorem dX9_bucketsFor_17 : decode cX9_bucketsFor 17 = .ok (.ireturn, 1) := by decide +kernel
theorem dX9_shareOfGrower_0 : decode cX9_shareOfGrower 0 = .ok (.iload_n 0, 1) := by decide +kernel
theorem dX9_shareOfGrower_1 : decode cX9_shareOfGrower 1 = .ok (.iload_n 0, 1) := by decide +kernel
theorem dX9_shareOfGrower_2 : decode cX9_shareOfGrower 2 = .ok (.bipush 20, 2) := by decide +kernel
theorem dX9_shareOfGrower_4 : decode cX9_shareOfGrower 4 = .ok (.idiv, 1) := by decide +kernel
theorem dX9_shareOfGrower_5 : decode cX9_shareOfGrower 5 = .ok (.isub, 1) := by decide +kernel
theorem dX9_shareOfGrower_6 : decode cX9_shareOfGrower 6 = .ok (.ireturn, 1) := by decide +kernel
theorem dX9_sell_0 : decode cX9_sell 0 = .ok (.iload 4, 2) := by decide +kernel
theorem dX9_sell_2 : decode cX9_sell 2 = .ok (.invokestatic 123, 3) := by decide +kernel
theorem dX9_sell_5 : decode cX9_sell 5 = .ok (.aload_n 1, 1) := by decide +kernel
theorem dX9_sell_6 : decode cX9_sell 6 = .ok (.getfield 134, 3) := by decide +kernel
theorem dX9_sell_9 : decode cX9_sell 9 = .ok (.invokestatic 203, 3) := by decide +kernel
theorem dX9_sell_12 : decode cX9_sell 12 = .ok (.istore 6, 2) := by decide +kernel
theorem dX9_sell_14 : decode cX9_sell 14 = .ok (.new 282, 3) := by decide +kernel
theorem dX9_sell_17 : decode cX9_sell 17 = .ok (.dup, 1) := by decide +kernel
theorem dX9_sell_18 : decode cX9_sell 18 = .ok (.aload_n 1, 1) := by decide +kernel
theorem dX9_sell_19 : decode cX9_sell 19 = .ok (.aload_n 2, 1) := by decide +kernel
theorem dX9_sell_20 : decode cX9_sell 20 = .ok (.aload_n 3, 1) := by decide +kernel
theorem dX9_sell_21 : decode cX9_sell 21 = .ok (.iload 4, 2) := by decide +kernel
theorem dX9_sell_23 : decode cX9_sell 23 = .ok (.iload 5, 2) := by decide +kernel
theorem dX9_sell_25 : decode cX9_sell 25 = .ok (.aload_n 0, 1) := by decide +kernel
theorem dX9_sell_26 : decode cX9_sell 26 = .ok (.getfield 287, 3) := by decide +kernel
theorem dX9_sell_29 : decode cX9_sell 29 = .ok (.iload 6, 2) := by decide +kernel
theorem dX9_sell_31 : decode cX9_sell 31 = .ok (.invokespecial 453, 3) := by decide +kernel
theorem dX9_sell_34 : decode cX9_sell 34 = .ok (.astore 7, 2) := by decide +kernel
theorem dX9_sell_36 : decode cX9_sell 36 = .ok (.aload_n 0, 1) := by decide +kernel
theorem dX9_sell_37 : decode cX9_sell 37 = .ok (.aload 7, 2) := by decide +kernel
theorem dX9_sell_39 : decode cX9_sell 39 = .ok (.iconst 1, 1) := by decide +kernel
theorem dX9_sell_40 : decode cX9_sell 40 = .ok (.invokevirtual 456, 3) := by decide +kernel
theorem dX9_sell_43 : decode cX9_sell 43 = .ok (.aload_n 1, 1) := by decide +kernel
theorem dX9_sell_44 : decode cX9_sell 44 = .ok (.getfield 174, 3) := by decide +kernel
theorem dX9_sell_47 : decode cX9_sell 47 = .ok (.iconst 1, 1) := by decide +kernel
theorem dX9_sell_48 : decode cX9_sell 48 = .ok (.if_icmp .ge 8, 3) := by decide +kernel
theorem dX9_sell_51 : decode cX9_sell 51 = .ok (.aload_n 1, 1) := by decide +kernel
theorem dX9_sell_52 : decode cX9_sell 52 = .ok (.iconst 2, 1) := by decide +kernel
theorem dX9_sell_53 : decode cX9_sell 53 = .ok (.putfield 146, 3) := by decide +kernel
theorem dX9_sell_56 : decode cX9_sell 56 = .ok (.aload_n 0, 1) := by decide +kernel
theorem dX9_sell_57 : decode cX9_sell 57 = .ok (.getfield 31, 3) := by decide +kernel
theorem dX9_sell_60 : decode cX9_sell 60 = .ok (.new 440, 3) := by decide +kernel
theorem dX9_sell_63 : decode cX9_sell 63 = .ok (.dup, 1) := by decide +kernel
theorem dX9_sell_64 : decode cX9_sell 64 = .ok (.aload_n 2, 1) := by decide +kernel
theorem dX9_sell_65 : decode cX9_sell 65 = .ok (.aload_n 1, 1) := by decide +kernel
theorem dX9_sell_66 : decode cX9_sell 66 = .ok (.getfield 168, 3) := by decide +kernel
theorem dX9_sell_69 : decode cX9_sell 69 = .ok (.iload 4, 2) := by decide +kernel
theorem dX9_sell_71 : decode cX9_sell 71 = .ok (.aload_n 1, 1) := by decide +kernel
theorem dX9_sell_72 : decode cX9_sell 72 = .ok (.getfield 191, 3) := by decide +kernel
theorem dX9_sell_75 : decode cX9_sell 75 = .ok (.invokespecial 460, 3) := by decide +kernel
theorem dX9_sell_78 : decode cX9_sell 78 = .ok (.invokevirtual 77, 3) := by decide +kernel
theorem dX9_sell_81 : decode cX9_sell 81 = .ok (.pop, 1) := by decide +kernel
theorem dX9_sell_82 : decode cX9_sell 82 = .ok (.aload_n 0, 1) := by decide +kernel
theorem dX9_sell_83 : decode cX9_sell 83 = .ok (.getfield 34, 3) := by decide +kernel
theorem dX9_sell_86 : decode cX9_sell 86 = .ok (.invokevirtual 63, 3) := by decide +kernel
theorem dX9_sell_89 : decode cX9_sell 89 = .ok (.bipush 20, 2) := by decide +kernel
theorem dX9_sell_91 : decode cX9_sell 91 = .ok (.if_icmp .lt 12, 3) := by decide +kernel
theorem dX9_sell_94 : decode cX9_sell 94 = .ok (.aload_n 0, 1) := by decide +kernel
theorem dX9_sell_95 : decode cX9_sell 95 = .ok (.getfield 34, 3) := by decide +kernel
theorem dX9_sell_98 : decode cX9_sell 98 = .ok (.iconst 0, 1) := by decide +kernel
theorem dX9_sell_99 : decode cX9_sell 99 = .ok (.invokevirtual 243, 3) := by decide +kernel
theorem dX9_sell_102 : decode cX9_sell 102 = .ok (.pop, 1) := by decide +kernel
theorem dX9_sell_103 : decode cX9_sell 103 = .ok (.aload_n 0, 1) := by decide +kernel
theorem dX9_sell_104 : decode cX9_sell 104 = .ok (.getfield 34, 3) := by decide +kernel
theorem dX9_sell_107 : decode cX9_sell 107 = .ok (.aload 7, 2) := by decide +kernel
theorem dX9_sell_109 : decode cX9_sell 109 = .ok (.invokevirtual 77, 3) := by decide +kernel
theorem dX9_sell_112 : decode cX9_sell 112 = .ok (.pop, 1) := by decide +kernel
theorem dX9_sell_113 : decode cX9_sell 113 = .ok (.return_, 1) := by decide +kernel
theorem dX9_takeBack_0 : decode cX9_takeBack 0 = .ok (.aload_n 0, 1) := by decide +kernel
theorem dX9_takeBack_1 : decode cX9_takeBack 1 = .ok (.aload_n 1, 1) := by decide +kernel
theorem dX9_takeBack_2 : decode cX9_takeBack 2 = .ok (.iconst (-1), 1) := by decide +kernel
theorem dX9_takeBack_3 : decode cX9_takeBack 3 = .ok (.invokevirtual 456, 3) := by decide +kernel
theorem dX9_takeBack_6 : decode cX9_takeBack 6 = .ok (.aload_n 1, 1) := by decide +kernel
theorem dX9_takeBack_7 : decode cX9_takeBack 7 = .ok (.getfield 288, 3) := by decide +kernel
theorem dX9_takeBack_10 : decode cX9_takeBack 10 = .ok (.getfield 146, 3) := by decide +kernel
theorem dX9_takeBack_13 : decode cX9_takeBack 13 = .ok (.iconst 2, 1) := by decide +kernel
theorem dX9_takeBack_14 : decode cX9_takeBack 14 = .ok (.if_icmp .ne 11, 3) := by decide +kernel
theorem dX9_takeBack_17 : decode cX9_takeBack 17 = .ok (.aload_n 1, 1) := by decide +kernel
theorem dX9_takeBack_18 : decode cX9_takeBack 18 = .ok (.getfield 288, 3) := by decide +kernel
theorem dX9_takeBack_21 : decode cX9_takeBack 21 = .ok (.iconst 0, 1) := by decide +kernel
theorem dX9_takeBack_22 : decode cX9_takeBack 22 = .ok (.putfield 146, 3) := by decide +kernel
theorem dX9_takeBack_25 : decode cX9_takeBack 25 = .ok (.aload_n 0, 1) := by decide +kernel
theorem dX9_takeBack_26 : decode cX9_takeBack 26 = .ok (.getfield 31, 3) := by decide +kernel
theorem dX9_takeBack_29 : decode cX9_takeBack 29 = .ok (.invokevirtual 237, 3) := by decide +kernel
theorem dX9_takeBack_32 : decode cX9_takeBack 32 = .ok (.ifCond .ne 20, 3) := by decide +kernel
theorem dX9_takeBack_35 : decode cX9_takeBack 35 = .ok (.aload_n 0, 1) := by decide +kernel
theorem dX9_takeBack_36 : decode cX9_takeBack 36 = .ok (.getfield 31, 3) := by decide +kernel
theorem dX9_takeBack_39 : decode cX9_takeBack 39 = .ok (.aload_n 0, 1) := by decide +kernel
theorem dX9_takeBack_40 : decode cX9_takeBack 40 = .ok (.getfield 31, 3) := by decide +kernel
theorem dX9_takeBack_43 : decode cX9_takeBack 43 = .ok (.invokevirtual 63, 3) := by decide +kernel
theorem dX9_takeBack_46 : decode cX9_takeBack 46 = .ok (.iconst 1, 1) := by decide +kernel
theorem dX9_takeBack_47 : decode cX9_takeBack 47 = .ok (.isub, 1) := by decide +kernel
theorem dX9_takeBack_48 : decode cX9_takeBack 48 = .ok (.invokevirtual 243, 3) := by decide +kernel
theorem dX9_takeBack_51 : decode cX9_takeBack 51 = .ok (.pop, 1) := by decide +kernel
theorem dX9_takeBack_52 : decode cX9_takeBack 52 = .ok (.return_, 1) := by decide +kernel
theorem dX9_book_0 : decode cX9_book 0 = .ok (.iload_n 2, 1) := by decide +kernel
theorem dX9_book_1 : decode cX9_book 1 = .ok (.aload_n 1, 1) := by decide +kernel
theorem dX9_book_2 : decode cX9_book 2 = .ok (.getfield 301, 3) := by decide +kernel
theorem dX9_book_5 : decode cX9_book 5 = .ok (.imul, 1) := by decide +kernel
theorem dX9_book_6 : decode cX9_book 6 = .ok (.istore_n 3, 1) := by decide +kernel
theorem dX9_book_7 : decode cX9_book 7 = .ok (.iload_n 2, 1) := by decide +kernel
theorem dX9_book_8 : decode cX9_book 8 = .ok (.aload_n 1, 1) := by decide +kernel
theorem dX9_book_9 : decode cX9_book 9 = .ok (.getfield 294, 3) := by decide +kernel
theorem dX9_book_12 : decode cX9_book 12 = .ok (.imul, 1) := by decide +kernel
theorem dX9_book_13 : decode cX9_book 13 = .ok (.istore 4, 2) := by decide +kernel
theorem dX9_book_15 : decode cX9_book 15 = .ok (.iconst 2, 1) := by decide +kernel
theorem dX9_book_16 : decode cX9_book 16 = .ok (.iload 4, 2) := by decide +kernel
theorem dX9_book_18 : decode cX9_book 18 = .ok (.imul, 1) := by decide +kernel
theorem dX9_book_19 : decode cX9_book 19 = .ok (.istore 5, 2) := by decide +kernel
theorem dX9_book_21 : decode cX9_book 21 = .ok (.iload_n 2, 1) := by decide +kernel
theorem dX9_book_22 : decode cX9_book 22 = .ok (.aload_n 1, 1) := by decide +kernel
theorem dX9_book_23 : decode cX9_book 23 = .ok (.getfield 463, 3) := by decide +kernel
theorem dX9_book_26 : decode cX9_book 26 = .ok (.imul, 1) := by decide +kernel
theorem dX9_book_27 : decode cX9_book 27 = .ok (.aload_n 1, 1) := by decide +kernel
theorem dX9_book_28 : decode cX9_book 28 = .ok (.getfield 301, 3) := by decide +kernel
theorem dX9_book_31 : decode cX9_book 31 = .ok (.imul, 1) := by decide +kernel
theorem dX9_book_32 : decode cX9_book 32 = .ok (.istore 6, 2) := by decide +kernel
theorem dX9_book_34 : decode cX9_book 34 = .ok (.iload_n 2, 1) := by decide +kernel
theorem dX9_book_35 : decode cX9_book 35 = .ok (.aload_n 1, 1) := by decide +kernel
theorem dX9_book_36 : decode cX9_book 36 = .ok (.getfield 463, 3) := by decide +kernel
theorem dX9_book_39 : decode cX9_book 39 = .ok (.aload_n 1, 1) := by decide +kernel
theorem dX9_book_40 : decode cX9_book 40 = .ok (.getfield 301, 3) := by decide +kernel
theorem dX9_book_43 : decode cX9_book 43 = .ok (.imul, 1) := by decide +kernel
theorem dX9_book_44 : decode cX9_book 44 = .ok (.invokestatic 274, 3) := by decide +kernel
theorem dX9_book_47 : decode cX9_book 47 = .ok (.imul, 1) := by decide +kernel
theorem dX9_book_48 : decode cX9_book 48 = .ok (.istore 7, 2) := by decide +kernel
theorem dX9_book_50 : decode cX9_book 50 = .ok (.aload_n 1, 1) := by decide +kernel
theorem dX9_book_51 : decode cX9_book 51 = .ok (.getfield 292, 3) := by decide +kernel
theorem dX9_book_54 : decode cX9_book 54 = .ok (.dup, 1) := by decide +kernel
theorem dX9_book_55 : decode cX9_book 55 = .ok (.getfield 269, 3) := by decide +kernel
theorem dX9_book_58 : decode cX9_book 58 = .ok (.iload 6, 2) := by decide +kernel
theorem dX9_book_60 : decode cX9_book 60 = .ok (.iload 5, 2) := by decide +kernel
theorem dX9_book_62 : decode cX9_book 62 = .ok (.iadd, 1) := by decide +kernel
theorem dX9_book_63 : decode cX9_book 63 = .ok (.isub, 1) := by decide +kernel
theorem dX9_book_64 : decode cX9_book 64 = .ok (.putfield 269, 3) := by decide +kernel
theorem dX9_book_67 : decode cX9_book 67 = .ok (.aload_n 1, 1) := by decide +kernel
theorem dX9_book_68 : decode cX9_book 68 = .ok (.getfield 292, 3) := by decide +kernel
theorem dX9_book_71 : decode cX9_book 71 = .ok (.dup, 1) := by decide +kernel
theorem dX9_book_72 : decode cX9_book 72 = .ok (.getfield 293, 3) := by decide +kernel
theorem dX9_book_75 : decode cX9_book 75 = .ok (.iload 4, 2) := by decide +kernel
theorem dX9_book_77 : decode cX9_book 77 = .ok (.iadd, 1) := by decide +kernel
theorem dX9_book_78 : decode cX9_book 78 = .ok (.putfield 293, 3) := by decide +kernel
theorem dX9_book_81 : decode cX9_book 81 = .ok (.aload_n 0, 1) := by decide +kernel
theorem dX9_book_82 : decode cX9_book 82 = .ok (.dup, 1) := by decide +kernel
theorem dX9_book_83 : decode cX9_book 83 = .ok (.getfield 320, 3) := by decide +kernel
theorem dX9_book_86 : decode cX9_book 86 = .ok (.iload 6, 2) := by decide +kernel
theorem dX9_book_88 : decode cX9_book 88 = .ok (.iload 7, 2) := by decide +kernel
theorem dX9_book_90 : decode cX9_book 90 = .ok (.isub, 1) := by decide +kernel
theorem dX9_book_91 : decode cX9_book 91 = .ok (.iload 5, 2) := by decide +kernel
theorem dX9_book_93 : decode cX9_book 93 = .ok (.iadd, 1) := by decide +kernel
theorem dX9_book_94 : decode cX9_book 94 = .ok (.iadd, 1) := by decide +kernel
