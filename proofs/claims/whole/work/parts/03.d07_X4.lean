theorem dX4_init_0 : decode cX4_init 0 = .ok (.aload_n 0, 1) := by decide +kernel
theorem dX4_init_1 : decode cX4_init 1 = .ok (.invokespecial 1, 3) := by decide +kernel
theorem dX4_init_4 : decode cX4_init 4 = .ok (.aload_n 0, 1) := by decide +kernel
theorem dX4_init_5 : decode cX4_init 5 = .ok (.sipush 200, 3) := by decide +kernel
theorem dX4_init_8 : decode cX4_init 8 = .ok (.newarray .byte, 2) := by decide +kernel
theorem dX4_init_10 : decode cX4_init 10 = .ok (.putfield 7, 3) := by decide +kernel
theorem dX4_init_13 : decode cX4_init 13 = .ok (.aload_n 0, 1) := by decide +kernel
theorem dX4_init_14 : decode cX4_init 14 = .ok (.iconst 2, 1) := by decide +kernel
theorem dX4_init_15 : decode cX4_init 15 = .ok (.newarray .int, 2) := by decide +kernel
theorem dX4_init_17 : decode cX4_init 17 = .ok (.putfield 13, 3) := by decide +kernel
theorem dX4_init_20 : decode cX4_init 20 = .ok (.aload_n 0, 1) := by decide +kernel
theorem dX4_init_21 : decode cX4_init 21 = .ok (.bipush 16, 2) := by decide +kernel
theorem dX4_init_23 : decode cX4_init 23 = .ok (.newarray .int, 2) := by decide +kernel
theorem dX4_init_25 : decode cX4_init 25 = .ok (.putfield 17, 3) := by decide +kernel
theorem dX4_init_28 : decode cX4_init 28 = .ok (.aload_n 0, 1) := by decide +kernel
theorem dX4_init_29 : decode cX4_init 29 = .ok (.bipush 16, 2) := by decide +kernel
theorem dX4_init_31 : decode cX4_init 31 = .ok (.newarray .int, 2) := by decide +kernel
theorem dX4_init_33 : decode cX4_init 33 = .ok (.putfield 20, 3) := by decide +kernel
theorem dX4_init_36 : decode cX4_init 36 = .ok (.aload_n 0, 1) := by decide +kernel
theorem dX4_init_37 : decode cX4_init 37 = .ok (.iconst 2, 1) := by decide +kernel
theorem dX4_init_38 : decode cX4_init 38 = .ok (.newarray .int, 2) := by decide +kernel
theorem dX4_init_40 : decode cX4_init 40 = .ok (.putfield 23, 3) := by decide +kernel
theorem dX4_init_43 : decode cX4_init 43 = .ok (.aload_n 0, 1) := by decide +kernel
theorem dX4_init_44 : decode cX4_init 44 = .ok (.iconst 2, 1) := by decide +kernel
theorem dX4_init_45 : decode cX4_init 45 = .ok (.newarray .int, 2) := by decide +kernel
theorem dX4_init_47 : decode cX4_init 47 = .ok (.putfield 26, 3) := by decide +kernel
theorem dX4_init_50 : decode cX4_init 50 = .ok (.aload_n 0, 1) := by decide +kernel
theorem dX4_init_51 : decode cX4_init 51 = .ok (.bipush 10, 2) := by decide +kernel
theorem dX4_init_53 : decode cX4_init 53 = .ok (.newarray .int, 2) := by decide +kernel
theorem dX4_init_55 : decode cX4_init 55 = .ok (.putfield 29, 3) := by decide +kernel
theorem dX4_init_58 : decode cX4_init 58 = .ok (.aload_n 0, 1) := by decide +kernel
theorem dX4_init_59 : decode cX4_init 59 = .ok (.iconst 2, 1) := by decide +kernel
theorem dX4_init_60 : decode cX4_init 60 = .ok (.newarray .int, 2) := by decide +kernel
theorem dX4_init_62 : decode cX4_init 62 = .ok (.putfield 32, 3) := by decide +kernel
theorem dX4_init_65 : decode cX4_init 65 = .ok (.aload_n 0, 1) := by decide +kernel
theorem dX4_init_66 : decode cX4_init 66 = .ok (.sipush 441, 3) := by decide +kernel
theorem dX4_init_69 : decode cX4_init 69 = .ok (.newarray .int, 2) := by decide +kernel
theorem dX4_init_71 : decode cX4_init 71 = .ok (.putfield 35, 3) := by decide +kernel
theorem dX4_init_74 : decode cX4_init 74 = .ok (.aload_n 0, 1) := by decide +kernel
theorem dX4_init_75 : decode cX4_init 75 = .ok (.iconst 2, 1) := by decide +kernel
theorem dX4_init_76 : decode cX4_init 76 = .ok (.newarray .boolean, 2) := by decide +kernel
theorem dX4_init_78 : decode cX4_init 78 = .ok (.putfield 38, 3) := by decide +kernel
theorem dX4_init_81 : decode cX4_init 81 = .ok (.aload_n 0, 1) := by decide +kernel
theorem dX4_init_82 : decode cX4_init 82 = .ok (.bipush 6, 2) := by decide +kernel
theorem dX4_init_84 : decode cX4_init 84 = .ok (.newarray .int, 2) := by decide +kernel
theorem dX4_init_86 : decode cX4_init 86 = .ok (.putfield 42, 3) := by decide +kernel
theorem dX4_init_89 : decode cX4_init 89 = .ok (.aload_n 0, 1) := by decide +kernel
theorem dX4_init_90 : decode cX4_init 90 = .ok (.bipush 6, 2) := by decide +kernel
theorem dX4_init_92 : decode cX4_init 92 = .ok (.newarray .int, 2) := by decide +kernel
theorem dX4_init_94 : decode cX4_init 94 = .ok (.putfield 45, 3) := by decide +kernel
theorem dX4_init_97 : decode cX4_init 97 = .ok (.aload_n 0, 1) := by decide +kernel
theorem dX4_init_98 : decode cX4_init 98 = .ok (.sipush 256, 3) := by decide +kernel
theorem dX4_init_101 : decode cX4_init 101 = .ok (.newarray .int, 2) := by decide +kernel
theorem dX4_init_103 : decode cX4_init 103 = .ok (.putfield 48, 3) := by decide +kernel
theorem dX4_init_106 : decode cX4_init 106 = .ok (.aload_n 0, 1) := by decide +kernel
theorem dX4_init_107 : decode cX4_init 107 = .ok (.invokevirtual 51, 3) := by decide +kernel
theorem dX4_init_110 : decode cX4_init 110 = .ok (.aload_n 0, 1) := by decide +kernel
theorem dX4_init_111 : decode cX4_init 111 = .ok (.invokevirtual 54, 3) := by decide +kernel
theorem dX4_init_114 : decode cX4_init 114 = .ok (.return_, 1) := by decide +kernel
theorem dX4_in_0 : decode cX4_in 0 = .ok (.iload_n 0, 1) := by decide +kernel
theorem dX4_in_1 : decode cX4_in 1 = .ok (.iload_n 1, 1) := by decide +kernel
theorem dX4_in_2 : decode cX4_in 2 = .ok (.if_icmp .lt 12, 3) := by decide +kernel
theorem dX4_in_5 : decode cX4_in 5 = .ok (.iload_n 0, 1) := by decide +kernel
theorem dX4_in_6 : decode cX4_in 6 = .ok (.iload_n 2, 1) := by decide +kernel
theorem dX4_in_7 : decode cX4_in 7 = .ok (.if_icmp .gt 7, 3) := by decide +kernel
theorem dX4_in_10 : decode cX4_in 10 = .ok (.iconst 1, 1) := by decide +kernel
theorem dX4_in_11 : decode cX4_in 11 = .ok (.goto 4, 3) := by decide +kernel
theorem dX4_in_14 : decode cX4_in 14 = .ok (.iconst 0, 1) := by decide +kernel
theorem dX4_in_15 : decode cX4_in 15 = .ok (.ireturn, 1) := by decide +kernel
theorem dX4_type_0 : decode cX4_type 0 = .ok (.iload_n 1, 1) := by decide +kernel
theorem dX4_type_1 : decode cX4_type 1 = .ok (.iconst 0, 1) := by decide +kernel
theorem dX4_type_2 : decode cX4_type 2 = .ok (.sipush 255, 3) := by decide +kernel
theorem dX4_type_5 : decode cX4_type 5 = .ok (.invokestatic 57, 3) := by decide +kernel
theorem dX4_type_8 : decode cX4_type 8 = .ok (.ifCond .ne 5, 3) := by decide +kernel
theorem dX4_type_11 : decode cX4_type 11 = .ok (.iconst (-1), 1) := by decide +kernel
theorem dX4_type_12 : decode cX4_type 12 = .ok (.ireturn, 1) := by decide +kernel
theorem dX4_type_13 : decode cX4_type 13 = .ok (.aload_n 0, 1) := by decide +kernel
theorem dX4_type_14 : decode cX4_type 14 = .ok (.getfield 61, 3) := by decide +kernel
theorem dX4_type_17 : decode cX4_type 17 = .ok (.sipush 200, 3) := by decide +kernel
theorem dX4_type_20 : decode cX4_type 20 = .ok (.if_icmp .ne 6, 3) := by decide +kernel
theorem dX4_type_23 : decode cX4_type 23 = .ok (.bipush (-3), 2) := by decide +kernel
theorem dX4_type_25 : decode cX4_type 25 = .ok (.ireturn, 1) := by decide +kernel
theorem dX4_type_26 : decode cX4_type 26 = .ok (.aload_n 0, 1) := by decide +kernel
theorem dX4_type_27 : decode cX4_type 27 = .ok (.getfield 7, 3) := by decide +kernel
theorem dX4_type_30 : decode cX4_type 30 = .ok (.aload_n 0, 1) := by decide +kernel
theorem dX4_type_31 : decode cX4_type 31 = .ok (.getfield 61, 3) := by decide +kernel
theorem dX4_type_34 : decode cX4_type 34 = .ok (.iload_n 1, 1) := by decide +kernel
theorem dX4_type_35 : decode cX4_type 35 = .ok (.i2b, 1) := by decide +kernel
theorem dX4_type_36 : decode cX4_type 36 = .ok (.bastore, 1) := by decide +kernel
theorem dX4_type_37 : decode cX4_type 37 = .ok (.aload_n 0, 1) := by decide +kernel
theorem dX4_type_38 : decode cX4_type 38 = .ok (.dup, 1) := by decide +kernel
theorem dX4_type_39 : decode cX4_type 39 = .ok (.getfield 61, 3) := by decide +kernel
theorem dX4_type_42 : decode cX4_type 42 = .ok (.iconst 1, 1) := by decide +kernel
theorem dX4_type_43 : decode cX4_type 43 = .ok (.iadd, 1) := by decide +kernel
theorem dX4_type_44 : decode cX4_type 44 = .ok (.putfield 61, 3) := by decide +kernel
theorem dX4_type_47 : decode cX4_type 47 = .ok (.aload_n 0, 1) := by decide +kernel
theorem dX4_type_48 : decode cX4_type 48 = .ok (.getfield 61, 3) := by decide +kernel
theorem dX4_type_51 : decode cX4_type 51 = .ok (.ireturn, 1) := by decide +kernel
theorem dX4_clear_0 : decode cX4_clear 0 = .ok (.aload_n 0, 1) := by decide +kernel
theorem dX4_clear_1 : decode cX4_clear 1 = .ok (.getfield 61, 3) := by decide +kernel
theorem dX4_clear_4 : decode cX4_clear 4 = .ok (.istore_n 1, 1) := by decide +kernel
theorem dX4_clear_5 : decode cX4_clear 5 = .ok (.aload_n 0, 1) := by decide +kernel
theorem dX4_clear_6 : decode cX4_clear 6 = .ok (.iconst 0, 1) := by decide +kernel
theorem dX4_clear_7 : decode cX4_clear 7 = .ok (.putfield 61, 3) := by decide +kernel
theorem dX4_clear_10 : decode cX4_clear 10 = .ok (.iload_n 1, 1) := by decide +kernel
theorem dX4_clear_11 : decode cX4_clear 11 = .ok (.ireturn, 1) := by decide +kernel
theorem dX4_here_0 : decode cX4_here 0 = .ok (.aload_n 0, 1) := by decide +kernel
theorem dX4_here_1 : decode cX4_here 1 = .ok (.getfield 65, 3) := by decide +kernel
theorem dX4_here_4 : decode cX4_here 4 = .ok (.aload_n 0, 1) := by decide +kernel
theorem dX4_here_5 : decode cX4_here 5 = .ok (.getfield 61, 3) := by decide +kernel
theorem dX4_here_8 : decode cX4_here 8 = .ok (.if_icmp .ge 19, 3) := by decide +kernel
theorem dX4_here_11 : decode cX4_here 11 = .ok (.aload_n 0, 1) := by decide +kernel
theorem dX4_here_12 : decode cX4_here 12 = .ok (.getfield 7, 3) := by decide +kernel
theorem dX4_here_15 : decode cX4_here 15 = .ok (.aload_n 0, 1) := by decide +kernel
theorem dX4_here_16 : decode cX4_here 16 = .ok (.getfield 65, 3) := by decide +kernel
theorem dX4_here_19 : decode cX4_here 19 = .ok (.baload, 1) := by decide +kernel
theorem dX4_here_20 : decode cX4_here 20 = .ok (.sipush 255, 3) := by decide +kernel
theorem dX4_here_23 : decode cX4_here 23 = .ok (.iand, 1) := by decide +kernel
theorem dX4_here_24 : decode cX4_here 24 = .ok (.goto 4, 3) := by decide +kernel
theorem dX4_here_27 : decode cX4_here 27 = .ok (.iconst (-1), 1) := by decide +kernel
theorem dX4_here_28 : decode cX4_here 28 = .ok (.ireturn, 1) := by decide +kernel
theorem dX4_step_0 : decode cX4_step 0 = .ok (.aload_n 0, 1) := by decide +kernel
theorem dX4_step_1 : decode cX4_step 1 = .ok (.invokevirtual 68, 3) := by decide +kernel
theorem dX4_step_4 : decode cX4_step 4 = .ok (.bipush 32, 2) := by decide +kernel
theorem dX4_step_6 : decode cX4_step 6 = .ok (.if_icmp .ne 16, 3) := by decide +kernel
theorem dX4_step_9 : decode cX4_step 9 = .ok (.aload_n 0, 1) := by decide +kernel
theorem dX4_step_10 : decode cX4_step 10 = .ok (.dup, 1) := by decide +kernel
theorem dX4_step_11 : decode cX4_step 11 = .ok (.getfield 65, 3) := by decide +kernel
theorem dX4_step_14 : decode cX4_step 14 = .ok (.iconst 1, 1) := by decide +kernel
theorem dX4_step_15 : decode cX4_step 15 = .ok (.iadd, 1) := by decide +kernel
theorem dX4_step_16 : decode cX4_step 16 = .ok (.putfield 65, 3) := by decide +kernel
theorem dX4_step_19 : decode cX4_step 19 = .ok (.goto (-19), 3) := by decide +kernel
theorem dX4_step_22 : decode cX4_step 22 = .ok (.aload_n 0, 1) := by decide +kernel
theorem dX4_step_23 : decode cX4_step 23 = .ok (.aload_n 0, 1) := by decide +kernel
theorem dX4_step_24 : decode cX4_step 24 = .ok (.getfield 65, 3) := by decide +kernel
theorem dX4_step_27 : decode cX4_step 27 = .ok (.putfield 72, 3) := by decide +kernel
theorem dX4_step_30 : decode cX4_step 30 = .ok (.aload_n 0, 1) := by decide +kernel
theorem dX4_step_31 : decode cX4_step 31 = .ok (.iconst 0, 1) := by decide +kernel
theorem dX4_step_32 : decode cX4_step 32 = .ok (.putfield 75, 3) := by decide +kernel
theorem dX4_step_35 : decode cX4_step 35 = .ok (.aload_n 0, 1) := by decide +kernel
theorem dX4_step_36 : decode cX4_step 36 = .ok (.invokevirtual 68, 3) := by decide +kernel
theorem dX4_step_39 : decode cX4_step 39 = .ok (.istore_n 1, 1) := by decide +kernel
theorem dX4_step_40 : decode cX4_step 40 = .ok (.iload_n 1, 1) := by decide +kernel
theorem dX4_step_41 : decode cX4_step 41 = .ok (.ifCond .ge 11, 3) := by decide +kernel
theorem dX4_step_44 : decode cX4_step 44 = .ok (.aload_n 0, 1) := by decide +kernel
theorem dX4_step_45 : decode cX4_step 45 = .ok (.iconst 3, 1) := by decide +kernel
theorem dX4_step_46 : decode cX4_step 46 = .ok (.putfield 78, 3) := by decide +kernel
theorem dX4_step_49 : decode cX4_step 49 = .ok (.goto 204, 3) := by decide +kernel
theorem dX4_step_52 : decode cX4_step 52 = .ok (.iload_n 1, 1) := by decide +kernel
theorem dX4_step_53 : decode cX4_step 53 = .ok (.bipush 97, 2) := by decide +kernel
theorem dX4_step_55 : decode cX4_step 55 = .ok (.bipush 122, 2) := by decide +kernel
theorem dX4_step_57 : decode cX4_step 57 = .ok (.invokestatic 57, 3) := by decide +kernel
theorem dX4_step_60 : decode cX4_step 60 = .ok (.ifCond .eq 55, 3) := by decide +kernel
theorem dX4_step_63 : decode cX4_step 63 = .ok (.aload_n 0, 1) := by decide +kernel
theorem dX4_step_64 : decode cX4_step 64 = .ok (.invokevirtual 68, 3) := by decide +kernel
theorem dX4_step_67 : decode cX4_step 67 = .ok (.bipush 97, 2) := by decide +kernel
theorem dX4_step_69 : decode cX4_step 69 = .ok (.bipush 122, 2) := by decide +kernel
theorem dX4_step_71 : decode cX4_step 71 = .ok (.invokestatic 57, 3) := by decide +kernel
theorem dX4_step_74 : decode cX4_step 74 = .ok (.ifCond .eq 16, 3) := by decide +kernel
theorem dX4_step_77 : decode cX4_step 77 = .ok (.aload_n 0, 1) := by decide +kernel
theorem dX4_step_78 : decode cX4_step 78 = .ok (.dup, 1) := by decide +kernel
theorem dX4_step_79 : decode cX4_step 79 = .ok (.getfield 65, 3) := by decide +kernel
theorem dX4_step_82 : decode cX4_step 82 = .ok (.iconst 1, 1) := by decide +kernel
theorem dX4_step_83 : decode cX4_step 83 = .ok (.iadd, 1) := by decide +kernel
theorem dX4_step_84 : decode cX4_step 84 = .ok (.putfield 65, 3) := by decide +kernel
theorem dX4_step_87 : decode cX4_step 87 = .ok (.goto (-24), 3) := by decide +kernel
theorem dX4_step_90 : decode cX4_step 90 = .ok (.aload_n 0, 1) := by decide +kernel
theorem dX4_step_91 : decode cX4_step 91 = .ok (.aload_n 0, 1) := by decide +kernel
theorem dX4_step_92 : decode cX4_step 92 = .ok (.getfield 65, 3) := by decide +kernel
theorem dX4_step_95 : decode cX4_step 95 = .ok (.aload_n 0, 1) := by decide +kernel
theorem dX4_step_96 : decode cX4_step 96 = .ok (.getfield 72, 3) := by decide +kernel
theorem dX4_step_99 : decode cX4_step 99 = .ok (.isub, 1) := by decide +kernel
theorem dX4_step_100 : decode cX4_step 100 = .ok (.iconst 1, 1) := by decide +kernel
theorem dX4_step_101 : decode cX4_step 101 = .ok (.if_icmp .ne 7, 3) := by decide +kernel
theorem dX4_step_104 : decode cX4_step 104 = .ok (.iload_n 1, 1) := by decide +kernel
theorem dX4_step_105 : decode cX4_step 105 = .ok (.goto 4, 3) := by decide +kernel
theorem dX4_step_108 : decode cX4_step 108 = .ok (.iconst 4, 1) := by decide +kernel
theorem dX4_step_109 : decode cX4_step 109 = .ok (.putfield 78, 3) := by decide +kernel
theorem dX4_step_112 : decode cX4_step 112 = .ok (.goto 141, 3) := by decide +kernel
theorem dX4_step_115 : decode cX4_step 115 = .ok (.iload_n 1, 1) := by decide +kernel
theorem dX4_step_116 : decode cX4_step 116 = .ok (.bipush 48, 2) := by decide +kernel
theorem dX4_step_118 : decode cX4_step 118 = .ok (.bipush 57, 2) := by decide +kernel
theorem dX4_step_120 : decode cX4_step 120 = .ok (.invokestatic 57, 3) := by decide +kernel
theorem dX4_step_123 : decode cX4_step 123 = .ok (.ifCond .eq 105, 3) := by decide +kernel
theorem dX4_step_126 : decode cX4_step 126 = .ok (.aload_n 0, 1) := by decide +kernel
theorem dX4_step_127 : decode cX4_step 127 = .ok (.invokevirtual 68, 3) := by decide +kernel
theorem dX4_step_130 : decode cX4_step 130 = .ok (.bipush 48, 2) := by decide +kernel
theorem dX4_step_132 : decode cX4_step 132 = .ok (.bipush 57, 2) := by decide +kernel
theorem dX4_step_134 : decode cX4_step 134 = .ok (.invokestatic 57, 3) := by decide +kernel
theorem dX4_step_137 : decode cX4_step 137 = .ok (.ifCond .eq 51, 3) := by decide +kernel
theorem dX4_step_140 : decode cX4_step 140 = .ok (.aload_n 0, 1) := by decide +kernel
theorem dX4_step_141 : decode cX4_step 141 = .ok (.aload_n 0, 1) := by decide +kernel
theorem dX4_step_142 : decode cX4_step 142 = .ok (.getfield 75, 3) := by decide +kernel
theorem dX4_step_145 : decode cX4_step 145 = .ok (.bipush 99, 2) := by decide +kernel
theorem dX4_step_147 : decode cX4_step 147 = .ok (.if_icmp .le 10, 3) := by decide +kernel
theorem dX4_step_150 : decode cX4_step 150 = .ok (.aload_n 0, 1) := by decide +kernel
theorem dX4_step_151 : decode cX4_step 151 = .ok (.getfield 75, 3) := by decide +kernel
theorem dX4_step_154 : decode cX4_step 154 = .ok (.goto 18, 3) := by decide +kernel
theorem dX4_step_157 : decode cX4_step 157 = .ok (.bipush 10, 2) := by decide +kernel
theorem dX4_step_159 : decode cX4_step 159 = .ok (.aload_n 0, 1) := by decide +kernel
theorem dX4_step_160 : decode cX4_step 160 = .ok (.getfield 75, 3) := by decide +kernel
theorem dX4_step_163 : decode cX4_step 163 = .ok (.imul, 1) := by decide +kernel
theorem dX4_step_164 : decode cX4_step 164 = .ok (.aload_n 0, 1) := by decide +kernel
theorem dX4_step_165 : decode cX4_step 165 = .ok (.invokevirtual 68, 3) := by decide +kernel
theorem dX4_step_168 : decode cX4_step 168 = .ok (.iadd, 1) := by decide +kernel
theorem dX4_step_169 : decode cX4_step 169 = .ok (.bipush 48, 2) := by decide +kernel
theorem dX4_step_171 : decode cX4_step 171 = .ok (.isub, 1) := by decide +kernel
theorem dX4_step_172 : decode cX4_step 172 = .ok (.putfield 75, 3) := by decide +kernel
theorem dX4_step_175 : decode cX4_step 175 = .ok (.aload_n 0, 1) := by decide +kernel
theorem dX4_step_176 : decode cX4_step 176 = .ok (.dup, 1) := by decide +kernel
theorem dX4_step_177 : decode cX4_step 177 = .ok (.getfield 65, 3) := by decide +kernel
theorem dX4_step_180 : decode cX4_step 180 = .ok (.iconst 1, 1) := by decide +kernel
theorem dX4_step_181 : decode cX4_step 181 = .ok (.iadd, 1) := by decide +kernel
theorem dX4_step_182 : decode cX4_step 182 = .ok (.putfield 65, 3) := by decide +kernel
theorem dX4_step_185 : decode cX4_step 185 = .ok (.goto (-59), 3) := by decide +kernel
theorem dX4_step_188 : decode cX4_step 188 = .ok (.aload_n 0, 1) := by decide +kernel
theorem dX4_step_189 : decode cX4_step 189 = .ok (.aload_n 0, 1) := by decide +kernel
theorem dX4_step_190 : decode cX4_step 190 = .ok (.getfield 75, 3) := by decide +kernel
theorem dX4_step_193 : decode cX4_step 193 = .ok (.bipush 99, 2) := by decide +kernel
theorem dX4_step_195 : decode cX4_step 195 = .ok (.if_icmp .gt 22, 3) := by decide +kernel
theorem dX4_step_198 : decode cX4_step 198 = .ok (.iload_n 1, 1) := by decide +kernel
theorem dX4_step_199 : decode cX4_step 199 = .ok (.bipush 48, 2) := by decide +kernel
theorem dX4_step_201 : decode cX4_step 201 = .ok (.if_icmp .ne 20, 3) := by decide +kernel
theorem dX4_step_204 : decode cX4_step 204 = .ok (.aload_n 0, 1) := by decide +kernel
theorem dX4_step_205 : decode cX4_step 205 = .ok (.getfield 65, 3) := by decide +kernel
theorem dX4_step_208 : decode cX4_step 208 = .ok (.aload_n 0, 1) := by decide +kernel
theorem dX4_step_209 : decode cX4_step 209 = .ok (.getfield 72, 3) := by decide +kernel
theorem dX4_step_212 : decode cX4_step 212 = .ok (.isub, 1) := by decide +kernel
theorem dX4_step_213 : decode cX4_step 213 = .ok (.iconst 1, 1) := by decide +kernel
theorem dX4_step_214 : decode cX4_step 214 = .ok (.if_icmp .le 7, 3) := by decide +kernel
theorem dX4_step_217 : decode cX4_step 217 = .ok (.iconst 4, 1) := by decide +kernel
theorem dX4_step_218 : decode cX4_step 218 = .ok (.goto 4, 3) := by decide +kernel
theorem dX4_step_221 : decode cX4_step 221 = .ok (.iconst 1, 1) := by decide +kernel
theorem dX4_step_222 : decode cX4_step 222 = .ok (.putfield 78, 3) := by decide +kernel
theorem dX4_step_225 : decode cX4_step 225 = .ok (.goto 28, 3) := by decide +kernel
theorem dX4_step_228 : decode cX4_step 228 = .ok (.aload_n 0, 1) := by decide +kernel
theorem dX4_step_229 : decode cX4_step 229 = .ok (.dup, 1) := by decide +kernel
theorem dX4_step_230 : decode cX4_step 230 = .ok (.getfield 65, 3) := by decide +kernel
theorem dX4_step_233 : decode cX4_step 233 = .ok (.iconst 1, 1) := by decide +kernel
theorem dX4_step_234 : decode cX4_step 234 = .ok (.iadd, 1) := by decide +kernel
theorem dX4_step_235 : decode cX4_step 235 = .ok (.putfield 65, 3) := by decide +kernel
theorem dX4_step_238 : decode cX4_step 238 = .ok (.aload_n 0, 1) := by decide +kernel
theorem dX4_step_239 : decode cX4_step 239 = .ok (.iload_n 1, 1) := by decide +kernel
theorem dX4_step_240 : decode cX4_step 240 = .ok (.bipush 59, 2) := by decide +kernel
theorem dX4_step_242 : decode cX4_step 242 = .ok (.if_icmp .ne 7, 3) := by decide +kernel
theorem dX4_step_245 : decode cX4_step 245 = .ok (.iconst 2, 1) := by decide +kernel
theorem dX4_step_246 : decode cX4_step 246 = .ok (.goto 4, 3) := by decide +kernel
theorem dX4_step_249 : decode cX4_step 249 = .ok (.iconst 4, 1) := by decide +kernel
theorem dX4_step_250 : decode cX4_step 250 = .ok (.putfield 78, 3) := by decide +kernel
theorem dX4_step_253 : decode cX4_step 253 = .ok (.return_, 1) := by decide +kernel
theorem dX4_due_0 : decode cX4_due 0 = .ok (.aload_n 0, 1) := by decide +kernel
theorem dX4_due_1 : decode cX4_due 1 = .ok (.getfield 75, 3) := by decide +kernel
theorem dX4_due_4 : decode cX4_due 4 = .ok (.istore_n 2, 1) := by decide +kernel
theorem dX4_due_5 : decode cX4_due 5 = .ok (.aload_n 0, 1) := by decide +kernel
theorem dX4_due_6 : decode cX4_due 6 = .ok (.getfield 81, 3) := by decide +kernel
theorem dX4_due_9 : decode cX4_due 9 = .ok (.bipush (-9), 2) := by decide +kernel
theorem dX4_due_11 : decode cX4_due 11 = .ok (.if_icmp .ne 22, 3) := by decide +kernel
theorem dX4_due_14 : decode cX4_due 14 = .ok (.iload_n 1, 1) := by decide +kernel
theorem dX4_due_15 : decode cX4_due 15 = .ok (.ifCond .eq 10, 3) := by decide +kernel
theorem dX4_due_18 : decode cX4_due 18 = .ok (.aload_n 0, 1) := by decide +kernel
theorem dX4_due_19 : decode cX4_due 19 = .ok (.invokevirtual 84, 3) := by decide +kernel
theorem dX4_due_22 : decode cX4_due 22 = .ok (.goto 11, 3) := by decide +kernel
theorem dX4_due_25 : decode cX4_due 25 = .ok (.aload_n 0, 1) := by decide +kernel
theorem dX4_due_26 : decode cX4_due 26 = .ok (.aload_n 0, 1) := by decide +kernel
theorem dX4_due_27 : decode cX4_due 27 = .ok (.getfield 72, 3) := by decide +kernel
theorem dX4_due_30 : decode cX4_due 30 = .ok (.putfield 81, 3) := by decide +kernel
theorem dX4_due_33 : decode cX4_due 33 = .ok (.iload_n 2, 1) := by decide +kernel
theorem dX4_due_34 : decode cX4_due 34 = .ok (.ireturn, 1) := by decide +kernel
theorem dX4_number_0 : decode cX4_number 0 = .ok (.aload_n 0, 1) := by decide +kernel
theorem dX4_number_1 : decode cX4_number 1 = .ok (.aload_n 0, 1) := by decide +kernel
theorem dX4_number_2 : decode cX4_number 2 = .ok (.getfield 78, 3) := by decide +kernel
theorem dX4_number_5 : decode cX4_number 5 = .ok (.iconst 1, 1) := by decide +kernel
theorem dX4_number_6 : decode cX4_number 6 = .ok (.if_icmp .ne 19, 3) := by decide +kernel
theorem dX4_number_9 : decode cX4_number 9 = .ok (.aload_n 0, 1) := by decide +kernel
theorem dX4_number_10 : decode cX4_number 10 = .ok (.getfield 75, 3) := by decide +kernel
theorem dX4_number_13 : decode cX4_number 13 = .ok (.iload_n 1, 1) := by decide +kernel
theorem dX4_number_14 : decode cX4_number 14 = .ok (.iload_n 2, 1) := by decide +kernel
theorem dX4_number_15 : decode cX4_number 15 = .ok (.invokestatic 57, 3) := by decide +kernel
theorem dX4_number_18 : decode cX4_number 18 = .ok (.ifCond .eq 7, 3) := by decide +kernel
theorem dX4_number_21 : decode cX4_number 21 = .ok (.iconst 1, 1) := by decide +kernel
theorem dX4_number_22 : decode cX4_number 22 = .ok (.goto 4, 3) := by decide +kernel
theorem dX4_number_25 : decode cX4_number 25 = .ok (.iconst 0, 1) := by decide +kernel
theorem dX4_number_26 : decode cX4_number 26 = .ok (.invokevirtual 87, 3) := by decide +kernel
theorem dX4_number_29 : decode cX4_number 29 = .ok (.ireturn, 1) := by decide +kernel
theorem dX4_mayBe_0 : decode cX4_mayBe 0 = .ok (.iload_n 1, 1) := by decide +kernel
theorem dX4_mayBe_1 : decode cX4_mayBe 1 = .ok (.lookupswitch 89 #[(97, 43), (111, 76), (112, 60), (122, 43)], 43) := by decide +kernel
theorem dX4_mayBe_44 : decode cX4_mayBe 44 = .ok (.aload_n 0, 1) := by decide +kernel
theorem dX4_mayBe_45 : decode cX4_mayBe 45 = .ok (.getfield 13, 3) := by decide +kernel
theorem dX4_mayBe_48 : decode cX4_mayBe 48 = .ok (.iconst 1, 1) := by decide +kernel
theorem dX4_mayBe_49 : decode cX4_mayBe 49 = .ok (.iaload, 1) := by decide +kernel
theorem dX4_mayBe_50 : decode cX4_mayBe 50 = .ok (.bipush 8, 2) := by decide +kernel
theorem dX4_mayBe_52 : decode cX4_mayBe 52 = .ok (.if_icmp .ge 7, 3) := by decide +kernel
theorem dX4_mayBe_55 : decode cX4_mayBe 55 = .ok (.iconst 1, 1) := by decide +kernel
theorem dX4_mayBe_56 : decode cX4_mayBe 56 = .ok (.goto 4, 3) := by decide +kernel
theorem dX4_mayBe_59 : decode cX4_mayBe 59 = .ok (.iconst 0, 1) := by decide +kernel
theorem dX4_mayBe_60 : decode cX4_mayBe 60 = .ok (.ireturn, 1) := by decide +kernel
theorem dX4_mayBe_61 : decode cX4_mayBe 61 = .ok (.aload_n 0, 1) := by decide +kernel
theorem dX4_mayBe_62 : decode cX4_mayBe 62 = .ok (.getfield 26, 3) := by decide +kernel
theorem dX4_mayBe_65 : decode cX4_mayBe 65 = .ok (.iconst 1, 1) := by decide +kernel
theorem dX4_mayBe_66 : decode cX4_mayBe 66 = .ok (.iaload, 1) := by decide +kernel
theorem dX4_mayBe_67 : decode cX4_mayBe 67 = .ok (.iconst 5, 1) := by decide +kernel
theorem dX4_mayBe_68 : decode cX4_mayBe 68 = .ok (.if_icmp .ge 7, 3) := by decide +kernel
theorem dX4_mayBe_71 : decode cX4_mayBe 71 = .ok (.iconst 1, 1) := by decide +kernel
theorem dX4_mayBe_72 : decode cX4_mayBe 72 = .ok (.goto 4, 3) := by decide +kernel
theorem dX4_mayBe_75 : decode cX4_mayBe 75 = .ok (.iconst 0, 1) := by decide +kernel
theorem dX4_mayBe_76 : decode cX4_mayBe 76 = .ok (.ireturn, 1) := by decide +kernel
theorem dX4_mayBe_77 : decode cX4_mayBe 77 = .ok (.aload_n 0, 1) := by decide +kernel
theorem dX4_mayBe_78 : decode cX4_mayBe 78 = .ok (.getfield 91, 3) := by decide +kernel
theorem dX4_mayBe_81 : decode cX4_mayBe 81 = .ok (.ifCond .ne 7, 3) := by decide +kernel
theorem dX4_mayBe_84 : decode cX4_mayBe 84 = .ok (.iconst 1, 1) := by decide +kernel
theorem dX4_mayBe_85 : decode cX4_mayBe 85 = .ok (.goto 4, 3) := by decide +kernel
theorem dX4_mayBe_88 : decode cX4_mayBe 88 = .ok (.iconst 0, 1) := by decide +kernel
theorem dX4_mayBe_89 : decode cX4_mayBe 89 = .ok (.ireturn, 1) := by decide +kernel
theorem dX4_mayBe_90 : decode cX4_mayBe 90 = .ok (.iconst 0, 1) := by decide +kernel
theorem dX4_mayBe_91 : decode cX4_mayBe 91 = .ok (.ireturn, 1) := by decide +kernel
theorem dX4_readSet_0 : decode cX4_readSet 0 = .ok (.iconst 0, 1) := by decide +kernel
theorem dX4_readSet_1 : decode cX4_readSet 1 = .ok (.istore_n 1, 1) := by decide +kernel
theorem dX4_readSet_2 : decode cX4_readSet 2 = .ok (.iconst 0, 1) := by decide +kernel
theorem dX4_readSet_3 : decode cX4_readSet 3 = .ok (.istore_n 2, 1) := by decide +kernel
theorem dX4_readSet_4 : decode cX4_readSet 4 = .ok (.iload_n 2, 1) := by decide +kernel
theorem dX4_readSet_5 : decode cX4_readSet 5 = .ok (.bipush 8, 2) := by decide +kernel
theorem dX4_readSet_7 : decode cX4_readSet 7 = .ok (.if_icmp .ge 67, 3) := by decide +kernel
theorem dX4_readSet_10 : decode cX4_readSet 10 = .ok (.aload_n 0, 1) := by decide +kernel
theorem dX4_readSet_11 : decode cX4_readSet 11 = .ok (.getfield 78, 3) := by decide +kernel
theorem dX4_readSet_14 : decode cX4_readSet 14 = .ok (.iconst 1, 1) := by decide +kernel
theorem dX4_readSet_15 : decode cX4_readSet 15 = .ok (.if_icmp .ne 59, 3) := by decide +kernel
theorem dX4_readSet_18 : decode cX4_readSet 18 = .ok (.aload_n 0, 1) := by decide +kernel
theorem dX4_readSet_19 : decode cX4_readSet 19 = .ok (.getfield 81, 3) := by decide +kernel
theorem dX4_readSet_22 : decode cX4_readSet 22 = .ok (.bipush (-9), 2) := by decide +kernel
theorem dX4_readSet_24 : decode cX4_readSet 24 = .ok (.if_icmp .ne 50, 3) := by decide +kernel
theorem dX4_readSet_27 : decode cX4_readSet 27 = .ok (.iload_n 1, 1) := by decide +kernel
theorem dX4_readSet_28 : decode cX4_readSet 28 = .ok (.iconst 1, 1) := by decide +kernel
theorem dX4_readSet_29 : decode cX4_readSet 29 = .ok (.aload_n 0, 1) := by decide +kernel
theorem dX4_readSet_30 : decode cX4_readSet 30 = .ok (.getfield 75, 3) := by decide +kernel
theorem dX4_readSet_33 : decode cX4_readSet 33 = .ok (.iconst 0, 1) := by decide +kernel
theorem dX4_readSet_34 : decode cX4_readSet 34 = .ok (.bipush 7, 2) := by decide +kernel
theorem dX4_readSet_36 : decode cX4_readSet 36 = .ok (.invokestatic 57, 3) := by decide +kernel
theorem dX4_readSet_39 : decode cX4_readSet 39 = .ok (.ifCond .eq 10, 3) := by decide +kernel
theorem dX4_readSet_42 : decode cX4_readSet 42 = .ok (.aload_n 0, 1) := by decide +kernel
theorem dX4_readSet_43 : decode cX4_readSet 43 = .ok (.getfield 75, 3) := by decide +kernel
theorem dX4_readSet_46 : decode cX4_readSet 46 = .ok (.goto 4, 3) := by decide +kernel
theorem dX4_readSet_49 : decode cX4_readSet 49 = .ok (.iconst 0, 1) := by decide +kernel
theorem dX4_readSet_50 : decode cX4_readSet 50 = .ok (.ishl, 1) := by decide +kernel
theorem dX4_readSet_51 : decode cX4_readSet 51 = .ok (.ior, 1) := by decide +kernel
theorem dX4_readSet_52 : decode cX4_readSet 52 = .ok (.istore_n 1, 1) := by decide +kernel
theorem dX4_readSet_53 : decode cX4_readSet 53 = .ok (.aload_n 0, 1) := by decide +kernel
theorem dX4_readSet_54 : decode cX4_readSet 54 = .ok (.aload_n 0, 1) := by decide +kernel
theorem dX4_readSet_55 : decode cX4_readSet 55 = .ok (.getfield 75, 3) := by decide +kernel
theorem dX4_readSet_58 : decode cX4_readSet 58 = .ok (.iconst 0, 1) := by decide +kernel
theorem dX4_readSet_59 : decode cX4_readSet 59 = .ok (.bipush 7, 2) := by decide +kernel
theorem dX4_readSet_61 : decode cX4_readSet 61 = .ok (.invokestatic 57, 3) := by decide +kernel
theorem dX4_readSet_64 : decode cX4_readSet 64 = .ok (.invokevirtual 87, 3) := by decide +kernel
theorem dX4_readSet_67 : decode cX4_readSet 67 = .ok (.pop, 1) := by decide +kernel
theorem dX4_readSet_68 : decode cX4_readSet 68 = .ok (.iinc 2 1, 3) := by decide +kernel
theorem dX4_readSet_71 : decode cX4_readSet 71 = .ok (.goto (-67), 3) := by decide +kernel
theorem dX4_readSet_74 : decode cX4_readSet 74 = .ok (.iload_n 1, 1) := by decide +kernel
theorem dX4_readSet_75 : decode cX4_readSet 75 = .ok (.ireturn, 1) := by decide +kernel
theorem dX4_readRow_0 : decode cX4_readRow 0 = .ok (.iload_n 1, 1) := by decide +kernel
theorem dX4_readRow_1 : decode cX4_readRow 1 = .ok (.lookupswitch 148 #[(97, 35), (112, 118), (122, 35)], 35) := by decide +kernel
theorem dX4_readRow_36 : decode cX4_readRow 36 = .ok (.bipush 8, 2) := by decide +kernel
theorem dX4_readRow_38 : decode cX4_readRow 38 = .ok (.aload_n 0, 1) := by decide +kernel
theorem dX4_readRow_39 : decode cX4_readRow 39 = .ok (.getfield 13, 3) := by decide +kernel
theorem dX4_readRow_42 : decode cX4_readRow 42 = .ok (.iconst 1, 1) := by decide +kernel
theorem dX4_readRow_43 : decode cX4_readRow 43 = .ok (.iaload, 1) := by decide +kernel
theorem dX4_readRow_44 : decode cX4_readRow 44 = .ok (.iadd, 1) := by decide +kernel
theorem dX4_readRow_45 : decode cX4_readRow 45 = .ok (.istore_n 2, 1) := by decide +kernel
theorem dX4_readRow_46 : decode cX4_readRow 46 = .ok (.aload_n 0, 1) := by decide +kernel
theorem dX4_readRow_47 : decode cX4_readRow 47 = .ok (.getfield 17, 3) := by decide +kernel
theorem dX4_readRow_50 : decode cX4_readRow 50 = .ok (.iload_n 2, 1) := by decide +kernel
theorem dX4_readRow_51 : decode cX4_readRow 51 = .ok (.aload_n 0, 1) := by decide +kernel
theorem dX4_readRow_52 : decode cX4_readRow 52 = .ok (.iconst 0, 1) := by decide +kernel
theorem dX4_readRow_53 : decode cX4_readRow 53 = .ok (.bipush 9, 2) := by decide +kernel
theorem dX4_readRow_55 : decode cX4_readRow 55 = .ok (.invokevirtual 95, 3) := by decide +kernel
theorem dX4_readRow_58 : decode cX4_readRow 58 = .ok (.iastore, 1) := by decide +kernel
theorem dX4_readRow_59 : decode cX4_readRow 59 = .ok (.aload_n 0, 1) := by decide +kernel
theorem dX4_readRow_60 : decode cX4_readRow 60 = .ok (.getfield 20, 3) := by decide +kernel
theorem dX4_readRow_63 : decode cX4_readRow 63 = .ok (.iload_n 2, 1) := by decide +kernel
theorem dX4_readRow_64 : decode cX4_readRow 64 = .ok (.iload_n 1, 1) := by decide +kernel
theorem dX4_readRow_65 : decode cX4_readRow 65 = .ok (.bipush 97, 2) := by decide +kernel
theorem dX4_readRow_67 : decode cX4_readRow 67 = .ok (.if_icmp .ne 10, 3) := by decide +kernel
theorem dX4_readRow_70 : decode cX4_readRow 70 = .ok (.aload_n 0, 1) := by decide +kernel
theorem dX4_readRow_71 : decode cX4_readRow 71 = .ok (.invokevirtual 99, 3) := by decide +kernel
theorem dX4_readRow_74 : decode cX4_readRow 74 = .ok (.goto 4, 3) := by decide +kernel
theorem dX4_readRow_77 : decode cX4_readRow 77 = .ok (.iconst 0, 1) := by decide +kernel
theorem dX4_readRow_78 : decode cX4_readRow 78 = .ok (.iastore, 1) := by decide +kernel
theorem dX4_readRow_79 : decode cX4_readRow 79 = .ok (.aload_n 0, 1) := by decide +kernel
theorem dX4_readRow_80 : decode cX4_readRow 80 = .ok (.getfield 23, 3) := by decide +kernel
theorem dX4_readRow_83 : decode cX4_readRow 83 = .ok (.iconst 1, 1) := by decide +kernel
theorem dX4_readRow_84 : decode cX4_readRow 84 = .ok (.dup2, 1) := by decide +kernel
theorem dX4_readRow_85 : decode cX4_readRow 85 = .ok (.iaload, 1) := by decide +kernel
theorem dX4_readRow_86 : decode cX4_readRow 86 = .ok (.iload_n 1, 1) := by decide +kernel
theorem dX4_readRow_87 : decode cX4_readRow 87 = .ok (.bipush 122, 2) := by decide +kernel
theorem dX4_readRow_89 : decode cX4_readRow 89 = .ok (.if_icmp .ne 14, 3) := by decide +kernel
theorem dX4_readRow_92 : decode cX4_readRow 92 = .ok (.iconst 1, 1) := by decide +kernel
theorem dX4_readRow_93 : decode cX4_readRow 93 = .ok (.aload_n 0, 1) := by decide +kernel
theorem dX4_readRow_94 : decode cX4_readRow 94 = .ok (.getfield 13, 3) := by decide +kernel
theorem dX4_readRow_97 : decode cX4_readRow 97 = .ok (.iconst 1, 1) := by decide +kernel
theorem dX4_readRow_98 : decode cX4_readRow 98 = .ok (.iaload, 1) := by decide +kernel
theorem dX4_readRow_99 : decode cX4_readRow 99 = .ok (.ishl, 1) := by decide +kernel
theorem dX4_readRow_100 : decode cX4_readRow 100 = .ok (.goto 4, 3) := by decide +kernel
theorem dX4_readRow_103 : decode cX4_readRow 103 = .ok (.iconst 0, 1) := by decide +kernel
theorem dX4_readRow_104 : decode cX4_readRow 104 = .ok (.ior, 1) := by decide +kernel
theorem dX4_readRow_105 : decode cX4_readRow 105 = .ok (.iastore, 1) := by decide +kernel
theorem dX4_readRow_106 : decode cX4_readRow 106 = .ok (.aload_n 0, 1) := by decide +kernel
theorem dX4_readRow_107 : decode cX4_readRow 107 = .ok (.getfield 13, 3) := by decide +kernel
theorem dX4_readRow_110 : decode cX4_readRow 110 = .ok (.iconst 1, 1) := by decide +kernel
theorem dX4_readRow_111 : decode cX4_readRow 111 = .ok (.dup2, 1) := by decide +kernel
theorem dX4_readRow_112 : decode cX4_readRow 112 = .ok (.iaload, 1) := by decide +kernel
theorem dX4_readRow_113 : decode cX4_readRow 113 = .ok (.iconst 1, 1) := by decide +kernel
theorem dX4_readRow_114 : decode cX4_readRow 114 = .ok (.iadd, 1) := by decide +kernel
theorem dX4_readRow_115 : decode cX4_readRow 115 = .ok (.iastore, 1) := by decide +kernel
theorem dX4_readRow_116 : decode cX4_readRow 116 = .ok (.goto 51, 3) := by decide +kernel
theorem dX4_readRow_119 : decode cX4_readRow 119 = .ok (.aload_n 0, 1) := by decide +kernel
theorem dX4_readRow_120 : decode cX4_readRow 120 = .ok (.getfield 29, 3) := by decide +kernel
theorem dX4_readRow_123 : decode cX4_readRow 123 = .ok (.iconst 5, 1) := by decide +kernel
theorem dX4_readRow_124 : decode cX4_readRow 124 = .ok (.aload_n 0, 1) := by decide +kernel
theorem dX4_readRow_125 : decode cX4_readRow 125 = .ok (.getfield 26, 3) := by decide +kernel
theorem dX4_readRow_128 : decode cX4_readRow 128 = .ok (.iconst 1, 1) := by decide +kernel
theorem dX4_readRow_129 : decode cX4_readRow 129 = .ok (.iaload, 1) := by decide +kernel
theorem dX4_readRow_130 : decode cX4_readRow 130 = .ok (.iadd, 1) := by decide +kernel
theorem dX4_readRow_131 : decode cX4_readRow 131 = .ok (.aload_n 0, 1) := by decide +kernel
theorem dX4_readRow_132 : decode cX4_readRow 132 = .ok (.invokevirtual 99, 3) := by decide +kernel
theorem dX4_readRow_135 : decode cX4_readRow 135 = .ok (.iastore, 1) := by decide +kernel
theorem dX4_readRow_136 : decode cX4_readRow 136 = .ok (.aload_n 0, 1) := by decide +kernel
theorem dX4_readRow_137 : decode cX4_readRow 137 = .ok (.getfield 26, 3) := by decide +kernel
theorem dX4_readRow_140 : decode cX4_readRow 140 = .ok (.iconst 1, 1) := by decide +kernel
theorem dX4_readRow_141 : decode cX4_readRow 141 = .ok (.dup2, 1) := by decide +kernel
theorem dX4_readRow_142 : decode cX4_readRow 142 = .ok (.iaload, 1) := by decide +kernel
theorem dX4_readRow_143 : decode cX4_readRow 143 = .ok (.iconst 1, 1) := by decide +kernel
theorem dX4_readRow_144 : decode cX4_readRow 144 = .ok (.iadd, 1) := by decide +kernel
theorem dX4_readRow_145 : decode cX4_readRow 145 = .ok (.iastore, 1) := by decide +kernel
theorem dX4_readRow_146 : decode cX4_readRow 146 = .ok (.goto 21, 3) := by decide +kernel
theorem dX4_readRow_149 : decode cX4_readRow 149 = .ok (.aload_n 0, 1) := by decide +kernel
theorem dX4_readRow_150 : decode cX4_readRow 150 = .ok (.getfield 32, 3) := by decide +kernel
theorem dX4_readRow_153 : decode cX4_readRow 153 = .ok (.iconst 1, 1) := by decide +kernel
theorem dX4_readRow_154 : decode cX4_readRow 154 = .ok (.aload_n 0, 1) := by decide +kernel
theorem dX4_readRow_155 : decode cX4_readRow 155 = .ok (.iconst 1, 1) := by decide +kernel
theorem dX4_readRow_156 : decode cX4_readRow 156 = .ok (.bipush 9, 2) := by decide +kernel
theorem dX4_readRow_158 : decode cX4_readRow 158 = .ok (.invokevirtual 95, 3) := by decide +kernel
theorem dX4_readRow_161 : decode cX4_readRow 161 = .ok (.iastore, 1) := by decide +kernel
theorem dX4_readRow_162 : decode cX4_readRow 162 = .ok (.aload_n 0, 1) := by decide +kernel
theorem dX4_readRow_163 : decode cX4_readRow 163 = .ok (.iconst 1, 1) := by decide +kernel
theorem dX4_readRow_164 : decode cX4_readRow 164 = .ok (.putfield 91, 3) := by decide +kernel
theorem dX4_readRow_167 : decode cX4_readRow 167 = .ok (.return_, 1) := by decide +kernel
theorem dX4_plain_0 : decode cX4_plain 0 = .ok (.aload_n 0, 1) := by decide +kernel
theorem dX4_plain_1 : decode cX4_plain 1 = .ok (.getfield 13, 3) := by decide +kernel
theorem dX4_plain_4 : decode cX4_plain 4 = .ok (.iconst 1, 1) := by decide +kernel
theorem dX4_plain_5 : decode cX4_plain 5 = .ok (.iconst 0, 1) := by decide +kernel
theorem dX4_plain_6 : decode cX4_plain 6 = .ok (.iastore, 1) := by decide +kernel
theorem dX4_plain_7 : decode cX4_plain 7 = .ok (.aload_n 0, 1) := by decide +kernel
theorem dX4_plain_8 : decode cX4_plain 8 = .ok (.getfield 23, 3) := by decide +kernel
theorem dX4_plain_11 : decode cX4_plain 11 = .ok (.iconst 1, 1) := by decide +kernel
theorem dX4_plain_12 : decode cX4_plain 12 = .ok (.iconst 0, 1) := by decide +kernel
theorem dX4_plain_13 : decode cX4_plain 13 = .ok (.iastore, 1) := by decide +kernel
theorem dX4_plain_14 : decode cX4_plain 14 = .ok (.aload_n 0, 1) := by decide +kernel
theorem dX4_plain_15 : decode cX4_plain 15 = .ok (.getfield 26, 3) := by decide +kernel
theorem dX4_plain_18 : decode cX4_plain 18 = .ok (.iconst 1, 1) := by decide +kernel
theorem dX4_plain_19 : decode cX4_plain 19 = .ok (.iconst 0, 1) := by decide +kernel
theorem dX4_plain_20 : decode cX4_plain 20 = .ok (.iastore, 1) := by decide +kernel
theorem dX4_plain_21 : decode cX4_plain 21 = .ok (.aload_n 0, 1) := by decide +kernel
theorem dX4_plain_22 : decode cX4_plain 22 = .ok (.getfield 32, 3) := by decide +kernel
theorem dX4_plain_25 : decode cX4_plain 25 = .ok (.iconst 1, 1) := by decide +kernel
theorem dX4_plain_26 : decode cX4_plain 26 = .ok (.iconst 3, 1) := by decide +kernel
theorem dX4_plain_27 : decode cX4_plain 27 = .ok (.iastore, 1) := by decide +kernel
theorem dX4_plain_28 : decode cX4_plain 28 = .ok (.aload_n 0, 1) := by decide +kernel
theorem dX4_plain_29 : decode cX4_plain 29 = .ok (.iconst 0, 1) := by decide +kernel
theorem dX4_plain_30 : decode cX4_plain 30 = .ok (.putfield 91, 3) := by decide +kernel
theorem dX4_plain_33 : decode cX4_plain 33 = .ok (.return_, 1) := by decide +kernel
theorem dX4_takeDraft_0 : decode cX4_takeDraft 0 = .ok (.aload_n 0, 1) := by decide +kernel
theorem dX4_takeDraft_1 : decode cX4_takeDraft 1 = .ok (.getfield 13, 3) := by decide +kernel
theorem dX4_takeDraft_4 : decode cX4_takeDraft 4 = .ok (.iconst 0, 1) := by decide +kernel
theorem dX4_takeDraft_5 : decode cX4_takeDraft 5 = .ok (.aload_n 0, 1) := by decide +kernel
theorem dX4_takeDraft_6 : decode cX4_takeDraft 6 = .ok (.getfield 13, 3) := by decide +kernel
theorem dX4_takeDraft_9 : decode cX4_takeDraft 9 = .ok (.iconst 1, 1) := by decide +kernel
theorem dX4_takeDraft_10 : decode cX4_takeDraft 10 = .ok (.iaload, 1) := by decide +kernel
theorem dX4_takeDraft_11 : decode cX4_takeDraft 11 = .ok (.iastore, 1) := by decide +kernel
theorem dX4_takeDraft_12 : decode cX4_takeDraft 12 = .ok (.aload_n 0, 1) := by decide +kernel
theorem dX4_takeDraft_13 : decode cX4_takeDraft 13 = .ok (.getfield 23, 3) := by decide +kernel
theorem dX4_takeDraft_16 : decode cX4_takeDraft 16 = .ok (.iconst 0, 1) := by decide +kernel
theorem dX4_takeDraft_17 : decode cX4_takeDraft 17 = .ok (.aload_n 0, 1) := by decide +kernel
theorem dX4_takeDraft_18 : decode cX4_takeDraft 18 = .ok (.getfield 23, 3) := by decide +kernel
theorem dX4_takeDraft_21 : decode cX4_takeDraft 21 = .ok (.iconst 1, 1) := by decide +kernel
theorem dX4_takeDraft_22 : decode cX4_takeDraft 22 = .ok (.iaload, 1) := by decide +kernel
theorem dX4_takeDraft_23 : decode cX4_takeDraft 23 = .ok (.iastore, 1) := by decide +kernel
theorem dX4_takeDraft_24 : decode cX4_takeDraft 24 = .ok (.aload_n 0, 1) := by decide +kernel
theorem dX4_takeDraft_25 : decode cX4_takeDraft 25 = .ok (.getfield 26, 3) := by decide +kernel
theorem dX4_takeDraft_28 : decode cX4_takeDraft 28 = .ok (.iconst 0, 1) := by decide +kernel
theorem dX4_takeDraft_29 : decode cX4_takeDraft 29 = .ok (.aload_n 0, 1) := by decide +kernel
theorem dX4_takeDraft_30 : decode cX4_takeDraft 30 = .ok (.getfield 26, 3) := by decide +kernel
theorem dX4_takeDraft_33 : decode cX4_takeDraft 33 = .ok (.iconst 1, 1) := by decide +kernel
theorem dX4_takeDraft_34 : decode cX4_takeDraft 34 = .ok (.iaload, 1) := by decide +kernel
theorem dX4_takeDraft_35 : decode cX4_takeDraft 35 = .ok (.iastore, 1) := by decide +kernel
theorem dX4_takeDraft_36 : decode cX4_takeDraft 36 = .ok (.aload_n 0, 1) := by decide +kernel
theorem dX4_takeDraft_37 : decode cX4_takeDraft 37 = .ok (.getfield 32, 3) := by decide +kernel
theorem dX4_takeDraft_40 : decode cX4_takeDraft 40 = .ok (.iconst 0, 1) := by decide +kernel
theorem dX4_takeDraft_41 : decode cX4_takeDraft 41 = .ok (.aload_n 0, 1) := by decide +kernel
theorem dX4_takeDraft_42 : decode cX4_takeDraft 42 = .ok (.getfield 32, 3) := by decide +kernel
theorem dX4_takeDraft_45 : decode cX4_takeDraft 45 = .ok (.iconst 1, 1) := by decide +kernel
theorem dX4_takeDraft_46 : decode cX4_takeDraft 46 = .ok (.iaload, 1) := by decide +kernel
theorem dX4_takeDraft_47 : decode cX4_takeDraft 47 = .ok (.iastore, 1) := by decide +kernel
theorem dX4_takeDraft_48 : decode cX4_takeDraft 48 = .ok (.iconst 1, 1) := by decide +kernel
theorem dX4_takeDraft_49 : decode cX4_takeDraft 49 = .ok (.aload_n 0, 1) := by decide +kernel
theorem dX4_takeDraft_50 : decode cX4_takeDraft 50 = .ok (.getfield 13, 3) := by decide +kernel
theorem dX4_takeDraft_53 : decode cX4_takeDraft 53 = .ok (.iconst 0, 1) := by decide +kernel
theorem dX4_takeDraft_54 : decode cX4_takeDraft 54 = .ok (.iaload, 1) := by decide +kernel
theorem dX4_takeDraft_55 : decode cX4_takeDraft 55 = .ok (.ishl, 1) := by decide +kernel
theorem dX4_takeDraft_56 : decode cX4_takeDraft 56 = .ok (.iconst 1, 1) := by decide +kernel
theorem dX4_takeDraft_57 : decode cX4_takeDraft 57 = .ok (.isub, 1) := by decide +kernel
theorem dX4_takeDraft_58 : decode cX4_takeDraft 58 = .ok (.istore_n 1, 1) := by decide +kernel
theorem dX4_takeDraft_59 : decode cX4_takeDraft 59 = .ok (.iconst 0, 1) := by decide +kernel
theorem dX4_takeDraft_60 : decode cX4_takeDraft 60 = .ok (.istore_n 2, 1) := by decide +kernel
theorem dX4_takeDraft_61 : decode cX4_takeDraft 61 = .ok (.iload_n 2, 1) := by decide +kernel
theorem dX4_takeDraft_62 : decode cX4_takeDraft 62 = .ok (.bipush 8, 2) := by decide +kernel
theorem dX4_takeDraft_64 : decode cX4_takeDraft 64 = .ok (.if_icmp .ge 41, 3) := by decide +kernel
theorem dX4_takeDraft_67 : decode cX4_takeDraft 67 = .ok (.aload_n 0, 1) := by decide +kernel
theorem dX4_takeDraft_68 : decode cX4_takeDraft 68 = .ok (.getfield 17, 3) := by decide +kernel
theorem dX4_takeDraft_71 : decode cX4_takeDraft 71 = .ok (.iload_n 2, 1) := by decide +kernel
theorem dX4_takeDraft_72 : decode cX4_takeDraft 72 = .ok (.aload_n 0, 1) := by decide +kernel
theorem dX4_takeDraft_73 : decode cX4_takeDraft 73 = .ok (.getfield 17, 3) := by decide +kernel
theorem dX4_takeDraft_76 : decode cX4_takeDraft 76 = .ok (.bipush 8, 2) := by decide +kernel
theorem dX4_takeDraft_78 : decode cX4_takeDraft 78 = .ok (.iload_n 2, 1) := by decide +kernel
theorem dX4_takeDraft_79 : decode cX4_takeDraft 79 = .ok (.iadd, 1) := by decide +kernel
theorem dX4_takeDraft_80 : decode cX4_takeDraft 80 = .ok (.iaload, 1) := by decide +kernel
theorem dX4_takeDraft_81 : decode cX4_takeDraft 81 = .ok (.iastore, 1) := by decide +kernel
theorem dX4_takeDraft_82 : decode cX4_takeDraft 82 = .ok (.aload_n 0, 1) := by decide +kernel
theorem dX4_takeDraft_83 : decode cX4_takeDraft 83 = .ok (.getfield 20, 3) := by decide +kernel
theorem dX4_takeDraft_86 : decode cX4_takeDraft 86 = .ok (.iload_n 2, 1) := by decide +kernel
theorem dX4_takeDraft_87 : decode cX4_takeDraft 87 = .ok (.aload_n 0, 1) := by decide +kernel
theorem dX4_takeDraft_88 : decode cX4_takeDraft 88 = .ok (.getfield 20, 3) := by decide +kernel
theorem dX4_takeDraft_91 : decode cX4_takeDraft 91 = .ok (.bipush 8, 2) := by decide +kernel
theorem dX4_takeDraft_93 : decode cX4_takeDraft 93 = .ok (.iload_n 2, 1) := by decide +kernel
theorem dX4_takeDraft_94 : decode cX4_takeDraft 94 = .ok (.iadd, 1) := by decide +kernel
theorem dX4_takeDraft_95 : decode cX4_takeDraft 95 = .ok (.iaload, 1) := by decide +kernel
theorem dX4_takeDraft_96 : decode cX4_takeDraft 96 = .ok (.iload_n 1, 1) := by decide +kernel
theorem dX4_takeDraft_97 : decode cX4_takeDraft 97 = .ok (.iand, 1) := by decide +kernel
theorem dX4_takeDraft_98 : decode cX4_takeDraft 98 = .ok (.iastore, 1) := by decide +kernel
theorem dX4_takeDraft_99 : decode cX4_takeDraft 99 = .ok (.iinc 2 1, 3) := by decide +kernel
theorem dX4_takeDraft_102 : decode cX4_takeDraft 102 = .ok (.goto (-41), 3) := by decide +kernel
theorem dX4_takeDraft_105 : decode cX4_takeDraft 105 = .ok (.iconst 0, 1) := by decide +kernel
theorem dX4_takeDraft_106 : decode cX4_takeDraft 106 = .ok (.istore_n 2, 1) := by decide +kernel
theorem dX4_takeDraft_107 : decode cX4_takeDraft 107 = .ok (.iload_n 2, 1) := by decide +kernel
theorem dX4_takeDraft_108 : decode cX4_takeDraft 108 = .ok (.iconst 5, 1) := by decide +kernel
theorem dX4_takeDraft_109 : decode cX4_takeDraft 109 = .ok (.if_icmp .ge 25, 3) := by decide +kernel
theorem dX4_takeDraft_112 : decode cX4_takeDraft 112 = .ok (.aload_n 0, 1) := by decide +kernel
theorem dX4_takeDraft_113 : decode cX4_takeDraft 113 = .ok (.getfield 29, 3) := by decide +kernel
theorem dX4_takeDraft_116 : decode cX4_takeDraft 116 = .ok (.iload_n 2, 1) := by decide +kernel
theorem dX4_takeDraft_117 : decode cX4_takeDraft 117 = .ok (.aload_n 0, 1) := by decide +kernel
theorem dX4_takeDraft_118 : decode cX4_takeDraft 118 = .ok (.getfield 29, 3) := by decide +kernel
theorem dX4_takeDraft_121 : decode cX4_takeDraft 121 = .ok (.iconst 5, 1) := by decide +kernel
theorem dX4_takeDraft_122 : decode cX4_takeDraft 122 = .ok (.iload_n 2, 1) := by decide +kernel
theorem dX4_takeDraft_123 : decode cX4_takeDraft 123 = .ok (.iadd, 1) := by decide +kernel
theorem dX4_takeDraft_124 : decode cX4_takeDraft 124 = .ok (.iaload, 1) := by decide +kernel
theorem dX4_takeDraft_125 : decode cX4_takeDraft 125 = .ok (.iload_n 1, 1) := by decide +kernel
theorem dX4_takeDraft_126 : decode cX4_takeDraft 126 = .ok (.iand, 1) := by decide +kernel
theorem dX4_takeDraft_127 : decode cX4_takeDraft 127 = .ok (.iastore, 1) := by decide +kernel
theorem dX4_takeDraft_128 : decode cX4_takeDraft 128 = .ok (.iinc 2 1, 3) := by decide +kernel
theorem dX4_takeDraft_131 : decode cX4_takeDraft 131 = .ok (.goto (-24), 3) := by decide +kernel
theorem dX4_takeDraft_134 : decode cX4_takeDraft 134 = .ok (.aload_n 0, 1) := by decide +kernel
theorem dX4_takeDraft_135 : decode cX4_takeDraft 135 = .ok (.getfield 35, 3) := by decide +kernel
theorem dX4_takeDraft_138 : decode cX4_takeDraft 138 = .ok (.bipush 120, 2) := by decide +kernel
theorem dX4_takeDraft_140 : decode cX4_takeDraft 140 = .ok (.iconst 0, 1) := by decide +kernel
theorem dX4_takeDraft_141 : decode cX4_takeDraft 141 = .ok (.iastore, 1) := by decide +kernel
theorem dX4_takeDraft_142 : decode cX4_takeDraft 142 = .ok (.aload_n 0, 1) := by decide +kernel
theorem dX4_takeDraft_143 : decode cX4_takeDraft 143 = .ok (.getfield 35, 3) := by decide +kernel
theorem dX4_takeDraft_146 : decode cX4_takeDraft 146 = .ok (.bipush 121, 2) := by decide +kernel
theorem dX4_takeDraft_148 : decode cX4_takeDraft 148 = .ok (.iconst 0, 1) := by decide +kernel
theorem dX4_takeDraft_149 : decode cX4_takeDraft 149 = .ok (.iastore, 1) := by decide +kernel
theorem dX4_takeDraft_150 : decode cX4_takeDraft 150 = .ok (.aload_n 0, 1) := by decide +kernel
theorem dX4_takeDraft_151 : decode cX4_takeDraft 151 = .ok (.getfield 35, 3) := by decide +kernel
theorem dX4_takeDraft_154 : decode cX4_takeDraft 154 = .ok (.bipush 122, 2) := by decide +kernel
theorem dX4_takeDraft_156 : decode cX4_takeDraft 156 = .ok (.iconst 0, 1) := by decide +kernel
theorem dX4_takeDraft_157 : decode cX4_takeDraft 157 = .ok (.iastore, 1) := by decide +kernel
theorem dX4_takeDraft_158 : decode cX4_takeDraft 158 = .ok (.aload_n 0, 1) := by decide +kernel
theorem dX4_takeDraft_159 : decode cX4_takeDraft 159 = .ok (.iconst 0, 1) := by decide +kernel
theorem dX4_takeDraft_160 : decode cX4_takeDraft 160 = .ok (.putfield 102, 3) := by decide +kernel
theorem dX4_takeDraft_163 : decode cX4_takeDraft 163 = .ok (.aload_n 0, 1) := by decide +kernel
theorem dX4_takeDraft_164 : decode cX4_takeDraft 164 = .ok (.getfield 38, 3) := by decide +kernel
theorem dX4_takeDraft_167 : decode cX4_takeDraft 167 = .ok (.iconst 0, 1) := by decide +kernel
theorem dX4_takeDraft_168 : decode cX4_takeDraft 168 = .ok (.iconst 0, 1) := by decide +kernel
theorem dX4_takeDraft_169 : decode cX4_takeDraft 169 = .ok (.bastore, 1) := by decide +kernel
theorem dX4_takeDraft_170 : decode cX4_takeDraft 170 = .ok (.aload_n 0, 1) := by decide +kernel
theorem dX4_takeDraft_171 : decode cX4_takeDraft 171 = .ok (.getfield 38, 3) := by decide +kernel
theorem dX4_takeDraft_174 : decode cX4_takeDraft 174 = .ok (.iconst 1, 1) := by decide +kernel
theorem dX4_takeDraft_175 : decode cX4_takeDraft 175 = .ok (.iconst 0, 1) := by decide +kernel
theorem dX4_takeDraft_176 : decode cX4_takeDraft 176 = .ok (.bastore, 1) := by decide +kernel
theorem dX4_takeDraft_177 : decode cX4_takeDraft 177 = .ok (.return_, 1) := by decide +kernel
theorem dX4_duchy_0 : decode cX4_duchy 0 = .ok (.aload_n 0, 1) := by decide +kernel
theorem dX4_duchy_1 : decode cX4_duchy 1 = .ok (.iconst 0, 1) := by decide +kernel
theorem dX4_duchy_2 : decode cX4_duchy 2 = .ok (.putfield 65, 3) := by decide +kernel
theorem dX4_duchy_5 : decode cX4_duchy 5 = .ok (.aload_n 0, 1) := by decide +kernel
theorem dX4_duchy_6 : decode cX4_duchy 6 = .ok (.bipush (-9), 2) := by decide +kernel
theorem dX4_duchy_8 : decode cX4_duchy 8 = .ok (.putfield 81, 3) := by decide +kernel
theorem dX4_duchy_11 : decode cX4_duchy 11 = .ok (.aload_n 0, 1) := by decide +kernel
theorem dX4_duchy_12 : decode cX4_duchy 12 = .ok (.invokevirtual 51, 3) := by decide +kernel
theorem dX4_duchy_15 : decode cX4_duchy 15 = .ok (.iconst 0, 1) := by decide +kernel
theorem dX4_duchy_16 : decode cX4_duchy 16 = .ok (.istore_n 1, 1) := by decide +kernel
theorem dX4_duchy_17 : decode cX4_duchy 17 = .ok (.aload_n 0, 1) := by decide +kernel
theorem dX4_duchy_18 : decode cX4_duchy 18 = .ok (.invokevirtual 84, 3) := by decide +kernel
theorem dX4_duchy_21 : decode cX4_duchy 21 = .ok (.aload_n 0, 1) := by decide +kernel
theorem dX4_duchy_22 : decode cX4_duchy 22 = .ok (.getfield 81, 3) := by decide +kernel
theorem dX4_duchy_25 : decode cX4_duchy 25 = .ok (.bipush (-9), 2) := by decide +kernel
theorem dX4_duchy_27 : decode cX4_duchy 27 = .ok (.if_icmp .ne 64, 3) := by decide +kernel
theorem dX4_duchy_30 : decode cX4_duchy 30 = .ok (.aload_n 0, 1) := by decide +kernel
theorem dX4_duchy_31 : decode cX4_duchy 31 = .ok (.getfield 78, 3) := by decide +kernel
theorem dX4_duchy_34 : decode cX4_duchy 34 = .ok (.iconst 3, 1) := by decide +kernel
theorem dX4_duchy_35 : decode cX4_duchy 35 = .ok (.if_icmp .eq 56, 3) := by decide +kernel
theorem dX4_duchy_38 : decode cX4_duchy 38 = .ok (.aload_n 0, 1) := by decide +kernel
theorem dX4_duchy_39 : decode cX4_duchy 39 = .ok (.getfield 78, 3) := by decide +kernel
theorem dX4_duchy_42 : decode cX4_duchy 42 = .ok (.istore_n 2, 1) := by decide +kernel
theorem dX4_duchy_43 : decode cX4_duchy 43 = .ok (.aload_n 0, 1) := by decide +kernel
theorem dX4_duchy_44 : decode cX4_duchy 44 = .ok (.aload_n 0, 1) := by decide +kernel
theorem dX4_duchy_45 : decode cX4_duchy 45 = .ok (.iload_n 2, 1) := by decide +kernel
theorem dX4_duchy_46 : decode cX4_duchy 46 = .ok (.invokevirtual 105, 3) := by decide +kernel
theorem dX4_duchy_49 : decode cX4_duchy 49 = .ok (.invokevirtual 87, 3) := by decide +kernel
theorem dX4_duchy_52 : decode cX4_duchy 52 = .ok (.pop, 1) := by decide +kernel
theorem dX4_duchy_53 : decode cX4_duchy 53 = .ok (.aload_n 0, 1) := by decide +kernel
theorem dX4_duchy_54 : decode cX4_duchy 54 = .ok (.getfield 81, 3) := by decide +kernel
theorem dX4_duchy_57 : decode cX4_duchy 57 = .ok (.bipush (-9), 2) := by decide +kernel
theorem dX4_duchy_59 : decode cX4_duchy 59 = .ok (.if_icmp .ne 29, 3) := by decide +kernel
theorem dX4_duchy_62 : decode cX4_duchy 62 = .ok (.aload_n 0, 1) := by decide +kernel
theorem dX4_duchy_63 : decode cX4_duchy 63 = .ok (.iload_n 2, 1) := by decide +kernel
theorem dX4_duchy_64 : decode cX4_duchy 64 = .ok (.invokevirtual 109, 3) := by decide +kernel
theorem dX4_duchy_67 : decode cX4_duchy 67 = .ok (.aload_n 0, 1) := by decide +kernel
theorem dX4_duchy_68 : decode cX4_duchy 68 = .ok (.aload_n 0, 1) := by decide +kernel
theorem dX4_duchy_69 : decode cX4_duchy 69 = .ok (.getfield 78, 3) := by decide +kernel
theorem dX4_duchy_72 : decode cX4_duchy 72 = .ok (.iconst 2, 1) := by decide +kernel
theorem dX4_duchy_73 : decode cX4_duchy 73 = .ok (.if_icmp .ne 7, 3) := by decide +kernel
theorem dX4_duchy_76 : decode cX4_duchy 76 = .ok (.iconst 1, 1) := by decide +kernel
theorem dX4_duchy_77 : decode cX4_duchy 77 = .ok (.goto 4, 3) := by decide +kernel
theorem dX4_duchy_80 : decode cX4_duchy 80 = .ok (.iconst 0, 1) := by decide +kernel
theorem dX4_duchy_81 : decode cX4_duchy 81 = .ok (.invokevirtual 87, 3) := by decide +kernel
theorem dX4_duchy_84 : decode cX4_duchy 84 = .ok (.pop, 1) := by decide +kernel
theorem dX4_duchy_85 : decode cX4_duchy 85 = .ok (.iinc 1 1, 3) := by decide +kernel
theorem dX4_duchy_88 : decode cX4_duchy 88 = .ok (.goto (-67), 3) := by decide +kernel
theorem dX4_duchy_91 : decode cX4_duchy 91 = .ok (.aload_n 0, 1) := by decide +kernel
theorem dX4_duchy_92 : decode cX4_duchy 92 = .ok (.getfield 81, 3) := by decide +kernel
theorem dX4_duchy_95 : decode cX4_duchy 95 = .ok (.bipush (-9), 2) := by decide +kernel
theorem dX4_duchy_97 : decode cX4_duchy 97 = .ok (.if_icmp .eq 11, 3) := by decide +kernel
theorem dX4_duchy_100 : decode cX4_duchy 100 = .ok (.bipush (-10), 2) := by decide +kernel
theorem dX4_duchy_102 : decode cX4_duchy 102 = .ok (.aload_n 0, 1) := by decide +kernel
theorem dX4_duchy_103 : decode cX4_duchy 103 = .ok (.getfield 81, 3) := by decide +kernel
theorem dX4_duchy_106 : decode cX4_duchy 106 = .ok (.isub, 1) := by decide +kernel
theorem dX4_duchy_107 : decode cX4_duchy 107 = .ok (.ireturn, 1) := by decide +kernel
theorem dX4_duchy_108 : decode cX4_duchy 108 = .ok (.aload_n 0, 1) := by decide +kernel
theorem dX4_duchy_109 : decode cX4_duchy 109 = .ok (.invokevirtual 54, 3) := by decide +kernel
theorem dX4_duchy_112 : decode cX4_duchy 112 = .ok (.aload_n 0, 1) := by decide +kernel
theorem dX4_duchy_113 : decode cX4_duchy 113 = .ok (.iconst 0, 1) := by decide +kernel
theorem dX4_duchy_114 : decode cX4_duchy 114 = .ok (.putfield 61, 3) := by decide +kernel
theorem dX4_duchy_117 : decode cX4_duchy 117 = .ok (.iload_n 1, 1) := by decide +kernel
theorem dX4_duchy_118 : decode cX4_duchy 118 = .ok (.ireturn, 1) := by decide +kernel
theorem dX4_isSaying_0 : decode cX4_isSaying 0 = .ok (.iload_n 1, 1) := by decide +kernel
theorem dX4_isSaying_1 : decode cX4_isSaying 1 = .ok (.iconst 0, 1) := by decide +kernel
theorem dX4_isSaying_2 : decode cX4_isSaying 2 = .ok (.aload_n 0, 1) := by decide +kernel
theorem dX4_isSaying_3 : decode cX4_isSaying 3 = .ok (.getfield 13, 3) := by decide +kernel
theorem dX4_isSaying_6 : decode cX4_isSaying 6 = .ok (.iconst 0, 1) := by decide +kernel
theorem dX4_isSaying_7 : decode cX4_isSaying 7 = .ok (.iaload, 1) := by decide +kernel
theorem dX4_isSaying_8 : decode cX4_isSaying 8 = .ok (.iconst 1, 1) := by decide +kernel
theorem dX4_isSaying_9 : decode cX4_isSaying 9 = .ok (.isub, 1) := by decide +kernel
theorem dX4_isSaying_10 : decode cX4_isSaying 10 = .ok (.invokestatic 57, 3) := by decide +kernel
theorem dX4_isSaying_13 : decode cX4_isSaying 13 = .ok (.ireturn, 1) := by decide +kernel
theorem dX4_isPerson_0 : decode cX4_isPerson 0 = .ok (.iload_n 1, 1) := by decide +kernel
theorem dX4_isPerson_1 : decode cX4_isPerson 1 = .ok (.iconst 0, 1) := by decide +kernel
theorem dX4_isPerson_2 : decode cX4_isPerson 2 = .ok (.aload_n 0, 1) := by decide +kernel
theorem dX4_isPerson_3 : decode cX4_isPerson 3 = .ok (.getfield 26, 3) := by decide +kernel
theorem dX4_isPerson_6 : decode cX4_isPerson 6 = .ok (.iconst 0, 1) := by decide +kernel
theorem dX4_isPerson_7 : decode cX4_isPerson 7 = .ok (.iaload, 1) := by decide +kernel
theorem dX4_isPerson_8 : decode cX4_isPerson 8 = .ok (.iconst 1, 1) := by decide +kernel
theorem dX4_isPerson_9 : decode cX4_isPerson 9 = .ok (.isub, 1) := by decide +kernel
theorem dX4_isPerson_10 : decode cX4_isPerson 10 = .ok (.invokestatic 57, 3) := by decide +kernel
theorem dX4_isPerson_13 : decode cX4_isPerson 13 = .ok (.ireturn, 1) := by decide +kernel
theorem dX4_isSound_0 : decode cX4_isSound 0 = .ok (.aload_n 0, 1) := by decide +kernel
theorem dX4_isSound_1 : decode cX4_isSound 1 = .ok (.getfield 23, 3) := by decide +kernel
theorem dX4_isSound_4 : decode cX4_isSound 4 = .ok (.iconst 0, 1) := by decide +kernel
theorem dX4_isSound_5 : decode cX4_isSound 5 = .ok (.iaload, 1) := by decide +kernel
theorem dX4_isSound_6 : decode cX4_isSound 6 = .ok (.iload_n 1, 1) := by decide +kernel
theorem dX4_isSound_7 : decode cX4_isSound 7 = .ok (.ishr, 1) := by decide +kernel
theorem dX4_isSound_8 : decode cX4_isSound 8 = .ok (.iconst 1, 1) := by decide +kernel
theorem dX4_isSound_9 : decode cX4_isSound 9 = .ok (.iand, 1) := by decide +kernel
theorem dX4_isSound_10 : decode cX4_isSound 10 = .ok (.iconst 1, 1) := by decide +kernel
theorem dX4_isSound_11 : decode cX4_isSound 11 = .ok (.if_icmp .ne 7, 3) := by decide +kernel
theorem dX4_isSound_14 : decode cX4_isSound 14 = .ok (.iconst 1, 1) := by decide +kernel
theorem dX4_isSound_15 : decode cX4_isSound 15 = .ok (.goto 4, 3) := by decide +kernel
theorem dX4_isSound_18 : decode cX4_isSound 18 = .ok (.iconst 0, 1) := by decide +kernel
theorem dX4_isSound_19 : decode cX4_isSound 19 = .ok (.ireturn, 1) := by decide +kernel
theorem dX4_manyOf_0 : decode cX4_manyOf 0 = .ok (.iconst 0, 1) := by decide +kernel
theorem dX4_manyOf_1 : decode cX4_manyOf 1 = .ok (.istore_n 1, 1) := by decide +kernel
theorem dX4_manyOf_2 : decode cX4_manyOf 2 = .ok (.iconst 0, 1) := by decide +kernel
theorem dX4_manyOf_3 : decode cX4_manyOf 3 = .ok (.istore_n 2, 1) := by decide +kernel
theorem dX4_manyOf_4 : decode cX4_manyOf 4 = .ok (.iload_n 2, 1) := by decide +kernel
theorem dX4_manyOf_5 : decode cX4_manyOf 5 = .ok (.bipush 8, 2) := by decide +kernel
theorem dX4_manyOf_7 : decode cX4_manyOf 7 = .ok (.if_icmp .ge 17, 3) := by decide +kernel
theorem dX4_manyOf_10 : decode cX4_manyOf 10 = .ok (.iload_n 1, 1) := by decide +kernel
theorem dX4_manyOf_11 : decode cX4_manyOf 11 = .ok (.iload_n 0, 1) := by decide +kernel
theorem dX4_manyOf_12 : decode cX4_manyOf 12 = .ok (.iload_n 2, 1) := by decide +kernel
theorem dX4_manyOf_13 : decode cX4_manyOf 13 = .ok (.ishr, 1) := by decide +kernel
theorem dX4_manyOf_14 : decode cX4_manyOf 14 = .ok (.iconst 1, 1) := by decide +kernel
theorem dX4_manyOf_15 : decode cX4_manyOf 15 = .ok (.iand, 1) := by decide +kernel
theorem dX4_manyOf_16 : decode cX4_manyOf 16 = .ok (.iadd, 1) := by decide +kernel
theorem dX4_manyOf_17 : decode cX4_manyOf 17 = .ok (.istore_n 1, 1) := by decide +kernel
theorem dX4_manyOf_18 : decode cX4_manyOf 18 = .ok (.iinc 2 1, 3) := by decide +kernel
