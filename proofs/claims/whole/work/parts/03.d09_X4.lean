theorem dX4_farthest_10 : decode cX4_farthest 10 = .ok (.bipush 120, 2) := by decide +kernel
theorem dX4_farthest_12 : decode cX4_farthest 12 = .ok (.iaload, 1) := by decide +kernel
theorem dX4_farthest_13 : decode cX4_farthest 13 = .ok (.if_icmp .ge 34, 3) := by decide +kernel
theorem dX4_farthest_16 : decode cX4_farthest 16 = .ok (.iload_n 1, 1) := by decide +kernel
theorem dX4_farthest_17 : decode cX4_farthest 17 = .ok (.bipush (-9), 2) := by decide +kernel
theorem dX4_farthest_19 : decode cX4_farthest 19 = .ok (.if_icmp .eq 16, 3) := by decide +kernel
theorem dX4_farthest_22 : decode cX4_farthest 22 = .ok (.aload_n 0, 1) := by decide +kernel
theorem dX4_farthest_23 : decode cX4_farthest 23 = .ok (.iload_n 2, 1) := by decide +kernel
theorem dX4_farthest_24 : decode cX4_farthest 24 = .ok (.invokevirtual 142, 3) := by decide +kernel
theorem dX4_farthest_27 : decode cX4_farthest 27 = .ok (.aload_n 0, 1) := by decide +kernel
theorem dX4_farthest_28 : decode cX4_farthest 28 = .ok (.iload_n 1, 1) := by decide +kernel
theorem dX4_farthest_29 : decode cX4_farthest 29 = .ok (.invokevirtual 142, 3) := by decide +kernel
theorem dX4_farthest_32 : decode cX4_farthest 32 = .ok (.if_icmp .le 7, 3) := by decide +kernel
theorem dX4_farthest_35 : decode cX4_farthest 35 = .ok (.iload_n 2, 1) := by decide +kernel
theorem dX4_farthest_36 : decode cX4_farthest 36 = .ok (.goto 4, 3) := by decide +kernel
theorem dX4_farthest_39 : decode cX4_farthest 39 = .ok (.iload_n 1, 1) := by decide +kernel
theorem dX4_farthest_40 : decode cX4_farthest 40 = .ok (.istore_n 1, 1) := by decide +kernel
theorem dX4_farthest_41 : decode cX4_farthest 41 = .ok (.iinc 2 1, 3) := by decide +kernel
theorem dX4_farthest_44 : decode cX4_farthest 44 = .ok (.goto (-39), 3) := by decide +kernel
theorem dX4_farthest_47 : decode cX4_farthest 47 = .ok (.iload_n 1, 1) := by decide +kernel
theorem dX4_farthest_48 : decode cX4_farthest 48 = .ok (.ireturn, 1) := by decide +kernel
theorem dX4_silent_0 : decode cX4_silent 0 = .ok (.iconst 0, 1) := by decide +kernel
theorem dX4_silent_1 : decode cX4_silent 1 = .ok (.istore_n 1, 1) := by decide +kernel
theorem dX4_silent_2 : decode cX4_silent 2 = .ok (.iload_n 1, 1) := by decide +kernel
theorem dX4_silent_3 : decode cX4_silent 3 = .ok (.bipush 9, 2) := by decide +kernel
theorem dX4_silent_5 : decode cX4_silent 5 = .ok (.if_icmp .gt 56, 3) := by decide +kernel
theorem dX4_silent_8 : decode cX4_silent 8 = .ok (.iconst 0, 1) := by decide +kernel
theorem dX4_silent_9 : decode cX4_silent 9 = .ok (.istore_n 2, 1) := by decide +kernel
theorem dX4_silent_10 : decode cX4_silent 10 = .ok (.iconst 0, 1) := by decide +kernel
theorem dX4_silent_11 : decode cX4_silent 11 = .ok (.istore_n 3, 1) := by decide +kernel
theorem dX4_silent_12 : decode cX4_silent 12 = .ok (.iload_n 3, 1) := by decide +kernel
theorem dX4_silent_13 : decode cX4_silent 13 = .ok (.aload_n 0, 1) := by decide +kernel
theorem dX4_silent_14 : decode cX4_silent 14 = .ok (.getfield 26, 3) := by decide +kernel
theorem dX4_silent_17 : decode cX4_silent 17 = .ok (.iconst 0, 1) := by decide +kernel
theorem dX4_silent_18 : decode cX4_silent 18 = .ok (.iaload, 1) := by decide +kernel
theorem dX4_silent_19 : decode cX4_silent 19 = .ok (.if_icmp .ge 30, 3) := by decide +kernel
theorem dX4_silent_22 : decode cX4_silent 22 = .ok (.iload_n 2, 1) := by decide +kernel
theorem dX4_silent_23 : decode cX4_silent 23 = .ok (.aload_n 0, 1) := by decide +kernel
theorem dX4_silent_24 : decode cX4_silent 24 = .ok (.iload_n 3, 1) := by decide +kernel
theorem dX4_silent_25 : decode cX4_silent 25 = .ok (.aload_n 0, 1) := by decide +kernel
theorem dX4_silent_26 : decode cX4_silent 26 = .ok (.aload_n 0, 1) := by decide +kernel
theorem dX4_silent_27 : decode cX4_silent 27 = .ok (.getfield 35, 3) := by decide +kernel
theorem dX4_silent_30 : decode cX4_silent 30 = .ok (.bipush 121, 2) := by decide +kernel
theorem dX4_silent_32 : decode cX4_silent 32 = .ok (.iaload, 1) := by decide +kernel
theorem dX4_silent_33 : decode cX4_silent 33 = .ok (.iload_n 1, 1) := by decide +kernel
theorem dX4_silent_34 : decode cX4_silent 34 = .ok (.iadd, 1) := by decide +kernel
theorem dX4_silent_35 : decode cX4_silent 35 = .ok (.invokevirtual 133, 3) := by decide +kernel
theorem dX4_silent_38 : decode cX4_silent 38 = .ok (.invokevirtual 136, 3) := by decide +kernel
theorem dX4_silent_41 : decode cX4_silent 41 = .ok (.ior, 1) := by decide +kernel
theorem dX4_silent_42 : decode cX4_silent 42 = .ok (.istore_n 2, 1) := by decide +kernel
theorem dX4_silent_43 : decode cX4_silent 43 = .ok (.iinc 3 1, 3) := by decide +kernel
theorem dX4_silent_46 : decode cX4_silent 46 = .ok (.goto (-34), 3) := by decide +kernel
theorem dX4_silent_49 : decode cX4_silent 49 = .ok (.iload_n 2, 1) := by decide +kernel
theorem dX4_silent_50 : decode cX4_silent 50 = .ok (.ifCond .ne 5, 3) := by decide +kernel
theorem dX4_silent_53 : decode cX4_silent 53 = .ok (.iload_n 1, 1) := by decide +kernel
theorem dX4_silent_54 : decode cX4_silent 54 = .ok (.ireturn, 1) := by decide +kernel
theorem dX4_silent_55 : decode cX4_silent 55 = .ok (.iinc 1 1, 3) := by decide +kernel
theorem dX4_silent_58 : decode cX4_silent 58 = .ok (.goto (-56), 3) := by decide +kernel
theorem dX4_silent_61 : decode cX4_silent 61 = .ok (.bipush (-9), 2) := by decide +kernel
theorem dX4_silent_63 : decode cX4_silent 63 = .ok (.ireturn, 1) := by decide +kernel
theorem dX4_now_0 : decode cX4_now 0 = .ok (.iconst 0, 1) := by decide +kernel
theorem dX4_now_1 : decode cX4_now 1 = .ok (.istore_n 2, 1) := by decide +kernel
theorem dX4_now_2 : decode cX4_now 2 = .ok (.iload_n 1, 1) := by decide +kernel
theorem dX4_now_3 : decode cX4_now 3 = .ok (.tableswitch 220 0 7 #[45, 53, 61, 73, 112, 117, 142, 215], 45) := by decide +kernel
theorem dX4_now_48 : decode cX4_now 48 = .ok (.aload_n 0, 1) := by decide +kernel
theorem dX4_now_49 : decode cX4_now 49 = .ok (.getfield 35, 3) := by decide +kernel
theorem dX4_now_52 : decode cX4_now 52 = .ok (.bipush 121, 2) := by decide +kernel
theorem dX4_now_54 : decode cX4_now 54 = .ok (.iaload, 1) := by decide +kernel
theorem dX4_now_55 : decode cX4_now 55 = .ok (.ireturn, 1) := by decide +kernel
theorem dX4_now_56 : decode cX4_now 56 = .ok (.aload_n 0, 1) := by decide +kernel
theorem dX4_now_57 : decode cX4_now 57 = .ok (.getfield 35, 3) := by decide +kernel
theorem dX4_now_60 : decode cX4_now 60 = .ok (.bipush 120, 2) := by decide +kernel
theorem dX4_now_62 : decode cX4_now 62 = .ok (.iaload, 1) := by decide +kernel
theorem dX4_now_63 : decode cX4_now 63 = .ok (.ireturn, 1) := by decide +kernel
theorem dX4_now_64 : decode cX4_now 64 = .ok (.aload_n 0, 1) := by decide +kernel
theorem dX4_now_65 : decode cX4_now 65 = .ok (.aload_n 0, 1) := by decide +kernel
theorem dX4_now_66 : decode cX4_now 66 = .ok (.getfield 35, 3) := by decide +kernel
theorem dX4_now_69 : decode cX4_now 69 = .ok (.bipush 121, 2) := by decide +kernel
theorem dX4_now_71 : decode cX4_now 71 = .ok (.iaload, 1) := by decide +kernel
theorem dX4_now_72 : decode cX4_now 72 = .ok (.invokevirtual 133, 3) := by decide +kernel
theorem dX4_now_75 : decode cX4_now 75 = .ok (.ireturn, 1) := by decide +kernel
theorem dX4_now_76 : decode cX4_now 76 = .ok (.iconst 0, 1) := by decide +kernel
theorem dX4_now_77 : decode cX4_now 77 = .ok (.istore_n 3, 1) := by decide +kernel
theorem dX4_now_78 : decode cX4_now 78 = .ok (.iload_n 3, 1) := by decide +kernel
theorem dX4_now_79 : decode cX4_now 79 = .ok (.aload_n 0, 1) := by decide +kernel
theorem dX4_now_80 : decode cX4_now 80 = .ok (.getfield 35, 3) := by decide +kernel
theorem dX4_now_83 : decode cX4_now 83 = .ok (.bipush 120, 2) := by decide +kernel
theorem dX4_now_85 : decode cX4_now 85 = .ok (.iaload, 1) := by decide +kernel
theorem dX4_now_86 : decode cX4_now 86 = .ok (.if_icmp .ge 27, 3) := by decide +kernel
theorem dX4_now_89 : decode cX4_now 89 = .ok (.iload_n 2, 1) := by decide +kernel
theorem dX4_now_90 : decode cX4_now 90 = .ok (.aload_n 0, 1) := by decide +kernel
theorem dX4_now_91 : decode cX4_now 91 = .ok (.iload_n 3, 1) := by decide +kernel
theorem dX4_now_92 : decode cX4_now 92 = .ok (.invokevirtual 145, 3) := by decide +kernel
theorem dX4_now_95 : decode cX4_now 95 = .ok (.bipush (-9), 2) := by decide +kernel
theorem dX4_now_97 : decode cX4_now 97 = .ok (.if_icmp .ne 7, 3) := by decide +kernel
theorem dX4_now_100 : decode cX4_now 100 = .ok (.iconst 1, 1) := by decide +kernel
theorem dX4_now_101 : decode cX4_now 101 = .ok (.goto 4, 3) := by decide +kernel
theorem dX4_now_104 : decode cX4_now 104 = .ok (.iconst 0, 1) := by decide +kernel
theorem dX4_now_105 : decode cX4_now 105 = .ok (.iadd, 1) := by decide +kernel
theorem dX4_now_106 : decode cX4_now 106 = .ok (.istore_n 2, 1) := by decide +kernel
theorem dX4_now_107 : decode cX4_now 107 = .ok (.iinc 3 1, 3) := by decide +kernel
theorem dX4_now_110 : decode cX4_now 110 = .ok (.goto (-32), 3) := by decide +kernel
theorem dX4_now_113 : decode cX4_now 113 = .ok (.iload_n 2, 1) := by decide +kernel
theorem dX4_now_114 : decode cX4_now 114 = .ok (.ireturn, 1) := by decide +kernel
theorem dX4_now_115 : decode cX4_now 115 = .ok (.aload_n 0, 1) := by decide +kernel
theorem dX4_now_116 : decode cX4_now 116 = .ok (.invokevirtual 155, 3) := by decide +kernel
theorem dX4_now_119 : decode cX4_now 119 = .ok (.ireturn, 1) := by decide +kernel
theorem dX4_now_120 : decode cX4_now 120 = .ok (.aload_n 0, 1) := by decide +kernel
theorem dX4_now_121 : decode cX4_now 121 = .ok (.getfield 35, 3) := by decide +kernel
theorem dX4_now_124 : decode cX4_now 124 = .ok (.bipush 120, 2) := by decide +kernel
theorem dX4_now_126 : decode cX4_now 126 = .ok (.iaload, 1) := by decide +kernel
theorem dX4_now_127 : decode cX4_now 127 = .ok (.ifCond .ne 8, 3) := by decide +kernel
theorem dX4_now_130 : decode cX4_now 130 = .ok (.bipush (-9), 2) := by decide +kernel
theorem dX4_now_132 : decode cX4_now 132 = .ok (.goto 12, 3) := by decide +kernel
theorem dX4_now_135 : decode cX4_now 135 = .ok (.aload_n 0, 1) := by decide +kernel
theorem dX4_now_136 : decode cX4_now 136 = .ok (.getfield 35, 3) := by decide +kernel
theorem dX4_now_139 : decode cX4_now 139 = .ok (.bipush 120, 2) := by decide +kernel
theorem dX4_now_141 : decode cX4_now 141 = .ok (.iaload, 1) := by decide +kernel
theorem dX4_now_142 : decode cX4_now 142 = .ok (.iconst 1, 1) := by decide +kernel
theorem dX4_now_143 : decode cX4_now 143 = .ok (.isub, 1) := by decide +kernel
theorem dX4_now_144 : decode cX4_now 144 = .ok (.ireturn, 1) := by decide +kernel
theorem dX4_now_145 : decode cX4_now 145 = .ok (.iconst 0, 1) := by decide +kernel
theorem dX4_now_146 : decode cX4_now 146 = .ok (.istore_n 3, 1) := by decide +kernel
theorem dX4_now_147 : decode cX4_now 147 = .ok (.iload_n 3, 1) := by decide +kernel
theorem dX4_now_148 : decode cX4_now 148 = .ok (.aload_n 0, 1) := by decide +kernel
theorem dX4_now_149 : decode cX4_now 149 = .ok (.getfield 35, 3) := by decide +kernel
theorem dX4_now_152 : decode cX4_now 152 = .ok (.bipush 120, 2) := by decide +kernel
theorem dX4_now_154 : decode cX4_now 154 = .ok (.iaload, 1) := by decide +kernel
theorem dX4_now_155 : decode cX4_now 155 = .ok (.if_icmp .ge 61, 3) := by decide +kernel
theorem dX4_now_158 : decode cX4_now 158 = .ok (.aload_n 0, 1) := by decide +kernel
theorem dX4_now_159 : decode cX4_now 159 = .ok (.getfield 35, 3) := by decide +kernel
theorem dX4_now_162 : decode cX4_now 162 = .ok (.bipush 90, 2) := by decide +kernel
theorem dX4_now_164 : decode cX4_now 164 = .ok (.iload_n 3, 1) := by decide +kernel
theorem dX4_now_165 : decode cX4_now 165 = .ok (.iadd, 1) := by decide +kernel
theorem dX4_now_166 : decode cX4_now 166 = .ok (.iaload, 1) := by decide +kernel
theorem dX4_now_167 : decode cX4_now 167 = .ok (.bipush (-9), 2) := by decide +kernel
theorem dX4_now_169 : decode cX4_now 169 = .ok (.if_icmp .ne 11, 3) := by decide +kernel
theorem dX4_now_172 : decode cX4_now 172 = .ok (.aload_n 0, 1) := by decide +kernel
theorem dX4_now_173 : decode cX4_now 173 = .ok (.iload_n 3, 1) := by decide +kernel
theorem dX4_now_174 : decode cX4_now 174 = .ok (.invokevirtual 145, 3) := by decide +kernel
theorem dX4_now_177 : decode cX4_now 177 = .ok (.goto 5, 3) := by decide +kernel
theorem dX4_now_180 : decode cX4_now 180 = .ok (.bipush (-9), 2) := by decide +kernel
theorem dX4_now_182 : decode cX4_now 182 = .ok (.istore 4, 2) := by decide +kernel
theorem dX4_now_184 : decode cX4_now 184 = .ok (.iload_n 2, 1) := by decide +kernel
theorem dX4_now_185 : decode cX4_now 185 = .ok (.iload 4, 2) := by decide +kernel
theorem dX4_now_187 : decode cX4_now 187 = .ok (.bipush (-9), 2) := by decide +kernel
theorem dX4_now_189 : decode cX4_now 189 = .ok (.if_icmp .ne 7, 3) := by decide +kernel
theorem dX4_now_192 : decode cX4_now 192 = .ok (.iconst 0, 1) := by decide +kernel
theorem dX4_now_193 : decode cX4_now 193 = .ok (.goto 15, 3) := by decide +kernel
theorem dX4_now_196 : decode cX4_now 196 = .ok (.iconst 1, 1) := by decide +kernel
theorem dX4_now_197 : decode cX4_now 197 = .ok (.aload_n 0, 1) := by decide +kernel
theorem dX4_now_198 : decode cX4_now 198 = .ok (.getfield 35, 3) := by decide +kernel
theorem dX4_now_201 : decode cX4_now 201 = .ok (.bipush 60, 2) := by decide +kernel
theorem dX4_now_203 : decode cX4_now 203 = .ok (.iload 4, 2) := by decide +kernel
theorem dX4_now_205 : decode cX4_now 205 = .ok (.iadd, 1) := by decide +kernel
theorem dX4_now_206 : decode cX4_now 206 = .ok (.iaload, 1) := by decide +kernel
theorem dX4_now_207 : decode cX4_now 207 = .ok (.ishl, 1) := by decide +kernel
theorem dX4_now_208 : decode cX4_now 208 = .ok (.ior, 1) := by decide +kernel
theorem dX4_now_209 : decode cX4_now 209 = .ok (.istore_n 2, 1) := by decide +kernel
theorem dX4_now_210 : decode cX4_now 210 = .ok (.iinc 3 1, 3) := by decide +kernel
theorem dX4_now_213 : decode cX4_now 213 = .ok (.goto (-66), 3) := by decide +kernel
theorem dX4_now_216 : decode cX4_now 216 = .ok (.iload_n 2, 1) := by decide +kernel
theorem dX4_now_217 : decode cX4_now 217 = .ok (.ireturn, 1) := by decide +kernel
theorem dX4_now_218 : decode cX4_now 218 = .ok (.aload_n 0, 1) := by decide +kernel
theorem dX4_now_219 : decode cX4_now 219 = .ok (.invokevirtual 158, 3) := by decide +kernel
theorem dX4_now_222 : decode cX4_now 222 = .ok (.ireturn, 1) := by decide +kernel
theorem dX4_now_223 : decode cX4_now 223 = .ok (.iconst (-1), 1) := by decide +kernel
theorem dX4_now_224 : decode cX4_now 224 = .ok (.ireturn, 1) := by decide +kernel
theorem dX4_worth_0 : decode cX4_worth 0 = .ok (.iload_n 1, 1) := by decide +kernel
theorem dX4_worth_1 : decode cX4_worth 1 = .ok (.iconst 0, 1) := by decide +kernel
theorem dX4_worth_2 : decode cX4_worth 2 = .ok (.aload_n 0, 1) := by decide +kernel
theorem dX4_worth_3 : decode cX4_worth 3 = .ok (.getfield 35, 3) := by decide +kernel
theorem dX4_worth_6 : decode cX4_worth 6 = .ok (.bipush 120, 2) := by decide +kernel
theorem dX4_worth_8 : decode cX4_worth 8 = .ok (.iaload, 1) := by decide +kernel
theorem dX4_worth_9 : decode cX4_worth 9 = .ok (.iconst 1, 1) := by decide +kernel
theorem dX4_worth_10 : decode cX4_worth 10 = .ok (.isub, 1) := by decide +kernel
theorem dX4_worth_11 : decode cX4_worth 11 = .ok (.invokestatic 57, 3) := by decide +kernel
theorem dX4_worth_14 : decode cX4_worth 14 = .ok (.ifCond .eq 17, 3) := by decide +kernel
theorem dX4_worth_17 : decode cX4_worth 17 = .ok (.aload_n 0, 1) := by decide +kernel
theorem dX4_worth_18 : decode cX4_worth 18 = .ok (.getfield 35, 3) := by decide +kernel
theorem dX4_worth_21 : decode cX4_worth 21 = .ok (.bipush 90, 2) := by decide +kernel
theorem dX4_worth_23 : decode cX4_worth 23 = .ok (.iload_n 1, 1) := by decide +kernel
theorem dX4_worth_24 : decode cX4_worth 24 = .ok (.iadd, 1) := by decide +kernel
theorem dX4_worth_25 : decode cX4_worth 25 = .ok (.iaload, 1) := by decide +kernel
theorem dX4_worth_26 : decode cX4_worth 26 = .ok (.bipush (-9), 2) := by decide +kernel
theorem dX4_worth_28 : decode cX4_worth 28 = .ok (.if_icmp .eq 5, 3) := by decide +kernel
theorem dX4_worth_31 : decode cX4_worth 31 = .ok (.iconst (-1), 1) := by decide +kernel
theorem dX4_worth_32 : decode cX4_worth 32 = .ok (.ireturn, 1) := by decide +kernel
theorem dX4_worth_33 : decode cX4_worth 33 = .ok (.iconst 0, 1) := by decide +kernel
theorem dX4_worth_34 : decode cX4_worth 34 = .ok (.istore_n 2, 1) := by decide +kernel
theorem dX4_worth_35 : decode cX4_worth 35 = .ok (.iconst 0, 1) := by decide +kernel
theorem dX4_worth_36 : decode cX4_worth 36 = .ok (.istore_n 3, 1) := by decide +kernel
theorem dX4_worth_37 : decode cX4_worth 37 = .ok (.iload_n 3, 1) := by decide +kernel
theorem dX4_worth_38 : decode cX4_worth 38 = .ok (.aload_n 0, 1) := by decide +kernel
theorem dX4_worth_39 : decode cX4_worth 39 = .ok (.getfield 35, 3) := by decide +kernel
theorem dX4_worth_42 : decode cX4_worth 42 = .ok (.bipush 120, 2) := by decide +kernel
theorem dX4_worth_44 : decode cX4_worth 44 = .ok (.iaload, 1) := by decide +kernel
theorem dX4_worth_45 : decode cX4_worth 45 = .ok (.if_icmp .ge 38, 3) := by decide +kernel
theorem dX4_worth_48 : decode cX4_worth 48 = .ok (.iload_n 2, 1) := by decide +kernel
theorem dX4_worth_49 : decode cX4_worth 49 = .ok (.aload_n 0, 1) := by decide +kernel
theorem dX4_worth_50 : decode cX4_worth 50 = .ok (.iload_n 3, 1) := by decide +kernel
theorem dX4_worth_51 : decode cX4_worth 51 = .ok (.invokevirtual 139, 3) := by decide +kernel
theorem dX4_worth_54 : decode cX4_worth 54 = .ok (.iload_n 1, 1) := by decide +kernel
theorem dX4_worth_55 : decode cX4_worth 55 = .ok (.if_icmp .ne 19, 3) := by decide +kernel
theorem dX4_worth_58 : decode cX4_worth 58 = .ok (.aload_n 0, 1) := by decide +kernel
theorem dX4_worth_59 : decode cX4_worth 59 = .ok (.getfield 17, 3) := by decide +kernel
theorem dX4_worth_62 : decode cX4_worth 62 = .ok (.aload_n 0, 1) := by decide +kernel
theorem dX4_worth_63 : decode cX4_worth 63 = .ok (.getfield 35, 3) := by decide +kernel
theorem dX4_worth_66 : decode cX4_worth 66 = .ok (.iconst 0, 1) := by decide +kernel
theorem dX4_worth_67 : decode cX4_worth 67 = .ok (.iload_n 3, 1) := by decide +kernel
theorem dX4_worth_68 : decode cX4_worth 68 = .ok (.iadd, 1) := by decide +kernel
theorem dX4_worth_69 : decode cX4_worth 69 = .ok (.iaload, 1) := by decide +kernel
theorem dX4_worth_70 : decode cX4_worth 70 = .ok (.iaload, 1) := by decide +kernel
theorem dX4_worth_71 : decode cX4_worth 71 = .ok (.goto 4, 3) := by decide +kernel
theorem dX4_worth_74 : decode cX4_worth 74 = .ok (.iconst 0, 1) := by decide +kernel
theorem dX4_worth_75 : decode cX4_worth 75 = .ok (.iadd, 1) := by decide +kernel
theorem dX4_worth_76 : decode cX4_worth 76 = .ok (.istore_n 2, 1) := by decide +kernel
theorem dX4_worth_77 : decode cX4_worth 77 = .ok (.iinc 3 1, 3) := by decide +kernel
theorem dX4_worth_80 : decode cX4_worth 80 = .ok (.goto (-43), 3) := by decide +kernel
theorem dX4_worth_83 : decode cX4_worth 83 = .ok (.iload_n 2, 1) := by decide +kernel
theorem dX4_worth_84 : decode cX4_worth 84 = .ok (.ireturn, 1) := by decide +kernel
theorem dX4_sayable_0 : decode cX4_sayable 0 = .ok (.iconst 0, 1) := by decide +kernel
theorem dX4_sayable_1 : decode cX4_sayable 1 = .ok (.istore_n 1, 1) := by decide +kernel
theorem dX4_sayable_2 : decode cX4_sayable 2 = .ok (.iconst 0, 1) := by decide +kernel
theorem dX4_sayable_3 : decode cX4_sayable 3 = .ok (.istore_n 2, 1) := by decide +kernel
theorem dX4_sayable_4 : decode cX4_sayable 4 = .ok (.iload_n 2, 1) := by decide +kernel
theorem dX4_sayable_5 : decode cX4_sayable 5 = .ok (.aload_n 0, 1) := by decide +kernel
theorem dX4_sayable_6 : decode cX4_sayable 6 = .ok (.getfield 13, 3) := by decide +kernel
theorem dX4_sayable_9 : decode cX4_sayable 9 = .ok (.iconst 0, 1) := by decide +kernel
theorem dX4_sayable_10 : decode cX4_sayable 10 = .ok (.iaload, 1) := by decide +kernel
theorem dX4_sayable_11 : decode cX4_sayable 11 = .ok (.if_icmp .ge 35, 3) := by decide +kernel
theorem dX4_sayable_14 : decode cX4_sayable 14 = .ok (.iload_n 1, 1) := by decide +kernel
theorem dX4_sayable_15 : decode cX4_sayable 15 = .ok (.aload_n 0, 1) := by decide +kernel
theorem dX4_sayable_16 : decode cX4_sayable 16 = .ok (.iload_n 2, 1) := by decide +kernel
theorem dX4_sayable_17 : decode cX4_sayable 17 = .ok (.invokevirtual 120, 3) := by decide +kernel
theorem dX4_sayable_20 : decode cX4_sayable 20 = .ok (.ifCond .ne 17, 3) := by decide +kernel
theorem dX4_sayable_23 : decode cX4_sayable 23 = .ok (.aload_n 0, 1) := by decide +kernel
theorem dX4_sayable_24 : decode cX4_sayable 24 = .ok (.iload_n 2, 1) := by decide +kernel
theorem dX4_sayable_25 : decode cX4_sayable 25 = .ok (.invokevirtual 123, 3) := by decide +kernel
theorem dX4_sayable_28 : decode cX4_sayable 28 = .ok (.ifCond .eq 9, 3) := by decide +kernel
theorem dX4_sayable_31 : decode cX4_sayable 31 = .ok (.iconst 1, 1) := by decide +kernel
theorem dX4_sayable_32 : decode cX4_sayable 32 = .ok (.iload_n 2, 1) := by decide +kernel
theorem dX4_sayable_33 : decode cX4_sayable 33 = .ok (.ishl, 1) := by decide +kernel
theorem dX4_sayable_34 : decode cX4_sayable 34 = .ok (.goto 4, 3) := by decide +kernel
theorem dX4_sayable_37 : decode cX4_sayable 37 = .ok (.iconst 0, 1) := by decide +kernel
theorem dX4_sayable_38 : decode cX4_sayable 38 = .ok (.ior, 1) := by decide +kernel
theorem dX4_sayable_39 : decode cX4_sayable 39 = .ok (.istore_n 1, 1) := by decide +kernel
theorem dX4_sayable_40 : decode cX4_sayable 40 = .ok (.iinc 2 1, 3) := by decide +kernel
theorem dX4_sayable_43 : decode cX4_sayable 43 = .ok (.goto (-39), 3) := by decide +kernel
theorem dX4_sayable_46 : decode cX4_sayable 46 = .ok (.iload_n 1, 1) := by decide +kernel
theorem dX4_sayable_47 : decode cX4_sayable 47 = .ok (.ireturn, 1) := by decide +kernel
theorem dX4_nextOf_0 : decode cX4_nextOf 0 = .ok (.iconst 0, 1) := by decide +kernel
theorem dX4_nextOf_1 : decode cX4_nextOf 1 = .ok (.istore_n 2, 1) := by decide +kernel
theorem dX4_nextOf_2 : decode cX4_nextOf 2 = .ok (.iconst 0, 1) := by decide +kernel
theorem dX4_nextOf_3 : decode cX4_nextOf 3 = .ok (.istore_n 3, 1) := by decide +kernel
theorem dX4_nextOf_4 : decode cX4_nextOf 4 = .ok (.iload_n 3, 1) := by decide +kernel
theorem dX4_nextOf_5 : decode cX4_nextOf 5 = .ok (.aload_n 0, 1) := by decide +kernel
theorem dX4_nextOf_6 : decode cX4_nextOf 6 = .ok (.getfield 13, 3) := by decide +kernel
theorem dX4_nextOf_9 : decode cX4_nextOf 9 = .ok (.iconst 0, 1) := by decide +kernel
theorem dX4_nextOf_10 : decode cX4_nextOf 10 = .ok (.iaload, 1) := by decide +kernel
theorem dX4_nextOf_11 : decode cX4_nextOf 11 = .ok (.if_icmp .ge 42, 3) := by decide +kernel
theorem dX4_nextOf_14 : decode cX4_nextOf 14 = .ok (.iload_n 2, 1) := by decide +kernel
theorem dX4_nextOf_15 : decode cX4_nextOf 15 = .ok (.aload_n 0, 1) := by decide +kernel
theorem dX4_nextOf_16 : decode cX4_nextOf 16 = .ok (.invokevirtual 161, 3) := by decide +kernel
theorem dX4_nextOf_19 : decode cX4_nextOf 19 = .ok (.iload_n 3, 1) := by decide +kernel
theorem dX4_nextOf_20 : decode cX4_nextOf 20 = .ok (.ishr, 1) := by decide +kernel
theorem dX4_nextOf_21 : decode cX4_nextOf 21 = .ok (.iconst 1, 1) := by decide +kernel
theorem dX4_nextOf_22 : decode cX4_nextOf 22 = .ok (.iand, 1) := by decide +kernel
theorem dX4_nextOf_23 : decode cX4_nextOf 23 = .ok (.iconst 1, 1) := by decide +kernel
theorem dX4_nextOf_24 : decode cX4_nextOf 24 = .ok (.if_icmp .ne 20, 3) := by decide +kernel
theorem dX4_nextOf_27 : decode cX4_nextOf 27 = .ok (.aload_n 0, 1) := by decide +kernel
theorem dX4_nextOf_28 : decode cX4_nextOf 28 = .ok (.getfield 20, 3) := by decide +kernel
theorem dX4_nextOf_31 : decode cX4_nextOf 31 = .ok (.iload_n 3, 1) := by decide +kernel
theorem dX4_nextOf_32 : decode cX4_nextOf 32 = .ok (.iaload, 1) := by decide +kernel
theorem dX4_nextOf_33 : decode cX4_nextOf 33 = .ok (.iload_n 1, 1) := by decide +kernel
theorem dX4_nextOf_34 : decode cX4_nextOf 34 = .ok (.iand, 1) := by decide +kernel
theorem dX4_nextOf_35 : decode cX4_nextOf 35 = .ok (.ifCond .eq 9, 3) := by decide +kernel
theorem dX4_nextOf_38 : decode cX4_nextOf 38 = .ok (.iconst 1, 1) := by decide +kernel
theorem dX4_nextOf_39 : decode cX4_nextOf 39 = .ok (.iload_n 3, 1) := by decide +kernel
theorem dX4_nextOf_40 : decode cX4_nextOf 40 = .ok (.ishl, 1) := by decide +kernel
theorem dX4_nextOf_41 : decode cX4_nextOf 41 = .ok (.goto 4, 3) := by decide +kernel
theorem dX4_nextOf_44 : decode cX4_nextOf 44 = .ok (.iconst 0, 1) := by decide +kernel
theorem dX4_nextOf_45 : decode cX4_nextOf 45 = .ok (.ior, 1) := by decide +kernel
theorem dX4_nextOf_46 : decode cX4_nextOf 46 = .ok (.istore_n 2, 1) := by decide +kernel
theorem dX4_nextOf_47 : decode cX4_nextOf 47 = .ok (.iinc 3 1, 3) := by decide +kernel
theorem dX4_nextOf_50 : decode cX4_nextOf 50 = .ok (.goto (-46), 3) := by decide +kernel
theorem dX4_nextOf_53 : decode cX4_nextOf 53 = .ok (.iload_n 2, 1) := by decide +kernel
theorem dX4_nextOf_54 : decode cX4_nextOf 54 = .ok (.ireturn, 1) := by decide +kernel
theorem dX4_reach_0 : decode cX4_reach 0 = .ok (.iconst 0, 1) := by decide +kernel
theorem dX4_reach_1 : decode cX4_reach 1 = .ok (.istore_n 2, 1) := by decide +kernel
theorem dX4_reach_2 : decode cX4_reach 2 = .ok (.iconst 0, 1) := by decide +kernel
theorem dX4_reach_3 : decode cX4_reach 3 = .ok (.istore_n 3, 1) := by decide +kernel
theorem dX4_reach_4 : decode cX4_reach 4 = .ok (.iload_n 3, 1) := by decide +kernel
theorem dX4_reach_5 : decode cX4_reach 5 = .ok (.bipush 8, 2) := by decide +kernel
theorem dX4_reach_7 : decode cX4_reach 7 = .ok (.if_icmp .gt 17, 3) := by decide +kernel
theorem dX4_reach_10 : decode cX4_reach 10 = .ok (.aload_n 0, 1) := by decide +kernel
theorem dX4_reach_11 : decode cX4_reach 11 = .ok (.iload_n 1, 1) := by decide +kernel
theorem dX4_reach_12 : decode cX4_reach 12 = .ok (.iload_n 2, 1) := by decide +kernel
theorem dX4_reach_13 : decode cX4_reach 13 = .ok (.ior, 1) := by decide +kernel
theorem dX4_reach_14 : decode cX4_reach 14 = .ok (.invokevirtual 164, 3) := by decide +kernel
theorem dX4_reach_17 : decode cX4_reach 17 = .ok (.istore_n 2, 1) := by decide +kernel
theorem dX4_reach_18 : decode cX4_reach 18 = .ok (.iinc 3 1, 3) := by decide +kernel
theorem dX4_reach_21 : decode cX4_reach 21 = .ok (.goto (-17), 3) := by decide +kernel
theorem dX4_reach_24 : decode cX4_reach 24 = .ok (.iload_n 2, 1) := by decide +kernel
theorem dX4_reach_25 : decode cX4_reach 25 = .ok (.ireturn, 1) := by decide +kernel
theorem dX4_chainOf_0 : decode cX4_chainOf 0 = .ok (.iconst 0, 1) := by decide +kernel
theorem dX4_chainOf_1 : decode cX4_chainOf 1 = .ok (.istore_n 3, 1) := by decide +kernel
theorem dX4_chainOf_2 : decode cX4_chainOf 2 = .ok (.iconst 1, 1) := by decide +kernel
theorem dX4_chainOf_3 : decode cX4_chainOf 3 = .ok (.istore 4, 2) := by decide +kernel
theorem dX4_chainOf_5 : decode cX4_chainOf 5 = .ok (.iload 4, 2) := by decide +kernel
theorem dX4_chainOf_7 : decode cX4_chainOf 7 = .ok (.bipush 8, 2) := by decide +kernel
theorem dX4_chainOf_9 : decode cX4_chainOf 9 = .ok (.if_icmp .gt 31, 3) := by decide +kernel
theorem dX4_chainOf_12 : decode cX4_chainOf 12 = .ok (.iload_n 3, 1) := by decide +kernel
theorem dX4_chainOf_13 : decode cX4_chainOf 13 = .ok (.aload_n 0, 1) := by decide +kernel
theorem dX4_chainOf_14 : decode cX4_chainOf 14 = .ok (.iload_n 2, 1) := by decide +kernel
theorem dX4_chainOf_15 : decode cX4_chainOf 15 = .ok (.iload_n 3, 1) := by decide +kernel
theorem dX4_chainOf_16 : decode cX4_chainOf 16 = .ok (.ior, 1) := by decide +kernel
theorem dX4_chainOf_17 : decode cX4_chainOf 17 = .ok (.invokevirtual 164, 3) := by decide +kernel
theorem dX4_chainOf_20 : decode cX4_chainOf 20 = .ok (.ior, 1) := by decide +kernel
theorem dX4_chainOf_21 : decode cX4_chainOf 21 = .ok (.istore_n 3, 1) := by decide +kernel
theorem dX4_chainOf_22 : decode cX4_chainOf 22 = .ok (.iload_n 3, 1) := by decide +kernel
theorem dX4_chainOf_23 : decode cX4_chainOf 23 = .ok (.iload_n 1, 1) := by decide +kernel
theorem dX4_chainOf_24 : decode cX4_chainOf 24 = .ok (.ishr, 1) := by decide +kernel
theorem dX4_chainOf_25 : decode cX4_chainOf 25 = .ok (.iconst 1, 1) := by decide +kernel
theorem dX4_chainOf_26 : decode cX4_chainOf 26 = .ok (.iand, 1) := by decide +kernel
theorem dX4_chainOf_27 : decode cX4_chainOf 27 = .ok (.iconst 1, 1) := by decide +kernel
theorem dX4_chainOf_28 : decode cX4_chainOf 28 = .ok (.if_icmp .ne 6, 3) := by decide +kernel
theorem dX4_chainOf_31 : decode cX4_chainOf 31 = .ok (.iload 4, 2) := by decide +kernel
theorem dX4_chainOf_33 : decode cX4_chainOf 33 = .ok (.ireturn, 1) := by decide +kernel
theorem dX4_chainOf_34 : decode cX4_chainOf 34 = .ok (.iinc 4 1, 3) := by decide +kernel
theorem dX4_chainOf_37 : decode cX4_chainOf 37 = .ok (.goto (-32), 3) := by decide +kernel
theorem dX4_chainOf_40 : decode cX4_chainOf 40 = .ok (.bipush (-9), 2) := by decide +kernel
theorem dX4_chainOf_42 : decode cX4_chainOf 42 = .ok (.ireturn, 1) := by decide +kernel
theorem dX4_chain_0 : decode cX4_chain 0 = .ok (.aload_n 0, 1) := by decide +kernel
theorem dX4_chain_1 : decode cX4_chain 1 = .ok (.iload_n 1, 1) := by decide +kernel
theorem dX4_chain_2 : decode cX4_chain 2 = .ok (.invokevirtual 117, 3) := by decide +kernel
theorem dX4_chain_5 : decode cX4_chain 5 = .ok (.ifCond .eq 8, 3) := by decide +kernel
theorem dX4_chain_8 : decode cX4_chain 8 = .ok (.iload_n 2, 1) := by decide +kernel
theorem dX4_chain_9 : decode cX4_chain 9 = .ok (.iconst (-1), 1) := by decide +kernel
theorem dX4_chain_10 : decode cX4_chain 10 = .ok (.if_icmp .ge 5, 3) := by decide +kernel
theorem dX4_chain_13 : decode cX4_chain 13 = .ok (.iconst (-1), 1) := by decide +kernel
theorem dX4_chain_14 : decode cX4_chain 14 = .ok (.ireturn, 1) := by decide +kernel
theorem dX4_chain_15 : decode cX4_chain 15 = .ok (.aload_n 0, 1) := by decide +kernel
theorem dX4_chain_16 : decode cX4_chain 16 = .ok (.aload_n 0, 1) := by decide +kernel
theorem dX4_chain_17 : decode cX4_chain 17 = .ok (.getfield 35, 3) := by decide +kernel
theorem dX4_chain_20 : decode cX4_chain 20 = .ok (.bipush 121, 2) := by decide +kernel
theorem dX4_chain_22 : decode cX4_chain 22 = .ok (.iaload, 1) := by decide +kernel
theorem dX4_chain_23 : decode cX4_chain 23 = .ok (.invokevirtual 133, 3) := by decide +kernel
theorem dX4_chain_26 : decode cX4_chain 26 = .ok (.istore_n 3, 1) := by decide +kernel
theorem dX4_chain_27 : decode cX4_chain 27 = .ok (.aload_n 0, 1) := by decide +kernel
theorem dX4_chain_28 : decode cX4_chain 28 = .ok (.iload_n 1, 1) := by decide +kernel
theorem dX4_chain_29 : decode cX4_chain 29 = .ok (.iload_n 3, 1) := by decide +kernel
theorem dX4_chain_30 : decode cX4_chain 30 = .ok (.invokevirtual 167, 3) := by decide +kernel
theorem dX4_chain_33 : decode cX4_chain 33 = .ok (.istore 4, 2) := by decide +kernel
theorem dX4_chain_35 : decode cX4_chain 35 = .ok (.iload_n 2, 1) := by decide +kernel
theorem dX4_chain_36 : decode cX4_chain 36 = .ok (.iconst (-1), 1) := by decide +kernel
theorem dX4_chain_37 : decode cX4_chain 37 = .ok (.if_icmp .eq 9, 3) := by decide +kernel
theorem dX4_chain_40 : decode cX4_chain 40 = .ok (.iload_n 2, 1) := by decide +kernel
theorem dX4_chain_41 : decode cX4_chain 41 = .ok (.iload 4, 2) := by decide +kernel
theorem dX4_chain_43 : decode cX4_chain 43 = .ok (.if_icmp .lt 16, 3) := by decide +kernel
theorem dX4_chain_46 : decode cX4_chain 46 = .ok (.iload_n 2, 1) := by decide +kernel
theorem dX4_chain_47 : decode cX4_chain 47 = .ok (.iconst (-1), 1) := by decide +kernel
theorem dX4_chain_48 : decode cX4_chain 48 = .ok (.if_icmp .ne 8, 3) := by decide +kernel
theorem dX4_chain_51 : decode cX4_chain 51 = .ok (.iload 4, 2) := by decide +kernel
theorem dX4_chain_53 : decode cX4_chain 53 = .ok (.goto 5, 3) := by decide +kernel
theorem dX4_chain_56 : decode cX4_chain 56 = .ok (.bipush (-9), 2) := by decide +kernel
theorem dX4_chain_58 : decode cX4_chain 58 = .ok (.ireturn, 1) := by decide +kernel
theorem dX4_chain_59 : decode cX4_chain 59 = .ok (.bipush (-9), 2) := by decide +kernel
theorem dX4_chain_61 : decode cX4_chain 61 = .ok (.istore 5, 2) := by decide +kernel
theorem dX4_chain_63 : decode cX4_chain 63 = .ok (.iconst 0, 1) := by decide +kernel
theorem dX4_chain_64 : decode cX4_chain 64 = .ok (.istore 6, 2) := by decide +kernel
theorem dX4_chain_66 : decode cX4_chain 66 = .ok (.iload 6, 2) := by decide +kernel
theorem dX4_chain_68 : decode cX4_chain 68 = .ok (.iload_n 2, 1) := by decide +kernel
theorem dX4_chain_69 : decode cX4_chain 69 = .ok (.if_icmp .gt 77, 3) := by decide +kernel
theorem dX4_chain_72 : decode cX4_chain 72 = .ok (.iconst 0, 1) := by decide +kernel
theorem dX4_chain_73 : decode cX4_chain 73 = .ok (.istore 5, 2) := by decide +kernel
theorem dX4_chain_75 : decode cX4_chain 75 = .ok (.iload 4, 2) := by decide +kernel
theorem dX4_chain_77 : decode cX4_chain 77 = .ok (.iload 6, 2) := by decide +kernel
theorem dX4_chain_79 : decode cX4_chain 79 = .ok (.isub, 1) := by decide +kernel
theorem dX4_chain_80 : decode cX4_chain 80 = .ok (.iconst 1, 1) := by decide +kernel
theorem dX4_chain_81 : decode cX4_chain 81 = .ok (.isub, 1) := by decide +kernel
theorem dX4_chain_82 : decode cX4_chain 82 = .ok (.istore 7, 2) := by decide +kernel
theorem dX4_chain_84 : decode cX4_chain 84 = .ok (.aload_n 0, 1) := by decide +kernel
theorem dX4_chain_85 : decode cX4_chain 85 = .ok (.iload_n 3, 1) := by decide +kernel
theorem dX4_chain_86 : decode cX4_chain 86 = .ok (.invokevirtual 164, 3) := by decide +kernel
theorem dX4_chain_89 : decode cX4_chain 89 = .ok (.iload 5, 2) := by decide +kernel
theorem dX4_chain_91 : decode cX4_chain 91 = .ok (.ishr, 1) := by decide +kernel
theorem dX4_chain_92 : decode cX4_chain 92 = .ok (.iconst 1, 1) := by decide +kernel
theorem dX4_chain_93 : decode cX4_chain 93 = .ok (.iand, 1) := by decide +kernel
theorem dX4_chain_94 : decode cX4_chain 94 = .ok (.ifCond .eq 33, 3) := by decide +kernel
theorem dX4_chain_97 : decode cX4_chain 97 = .ok (.iload 7, 2) := by decide +kernel
theorem dX4_chain_99 : decode cX4_chain 99 = .ok (.ifCond .ne 12, 3) := by decide +kernel
theorem dX4_chain_102 : decode cX4_chain 102 = .ok (.iload 5, 2) := by decide +kernel
theorem dX4_chain_104 : decode cX4_chain 104 = .ok (.iload_n 1, 1) := by decide +kernel
theorem dX4_chain_105 : decode cX4_chain 105 = .ok (.if_icmp .eq 28, 3) := by decide +kernel
theorem dX4_chain_108 : decode cX4_chain 108 = .ok (.goto 19, 3) := by decide +kernel
theorem dX4_chain_111 : decode cX4_chain 111 = .ok (.aload_n 0, 1) := by decide +kernel
theorem dX4_chain_112 : decode cX4_chain 112 = .ok (.iload_n 1, 1) := by decide +kernel
theorem dX4_chain_113 : decode cX4_chain 113 = .ok (.iload_n 3, 1) := by decide +kernel
theorem dX4_chain_114 : decode cX4_chain 114 = .ok (.iconst 1, 1) := by decide +kernel
theorem dX4_chain_115 : decode cX4_chain 115 = .ok (.iload 5, 2) := by decide +kernel
theorem dX4_chain_117 : decode cX4_chain 117 = .ok (.ishl, 1) := by decide +kernel
theorem dX4_chain_118 : decode cX4_chain 118 = .ok (.ior, 1) := by decide +kernel
theorem dX4_chain_119 : decode cX4_chain 119 = .ok (.invokevirtual 167, 3) := by decide +kernel
theorem dX4_chain_122 : decode cX4_chain 122 = .ok (.iload 7, 2) := by decide +kernel
theorem dX4_chain_124 : decode cX4_chain 124 = .ok (.if_icmp .eq 9, 3) := by decide +kernel
theorem dX4_chain_127 : decode cX4_chain 127 = .ok (.iinc 5 1, 3) := by decide +kernel
theorem dX4_chain_130 : decode cX4_chain 130 = .ok (.goto (-46), 3) := by decide +kernel
theorem dX4_chain_133 : decode cX4_chain 133 = .ok (.iload_n 3, 1) := by decide +kernel
theorem dX4_chain_134 : decode cX4_chain 134 = .ok (.iconst 1, 1) := by decide +kernel
theorem dX4_chain_135 : decode cX4_chain 135 = .ok (.iload 5, 2) := by decide +kernel
theorem dX4_chain_137 : decode cX4_chain 137 = .ok (.ishl, 1) := by decide +kernel
theorem dX4_chain_138 : decode cX4_chain 138 = .ok (.ior, 1) := by decide +kernel
theorem dX4_chain_139 : decode cX4_chain 139 = .ok (.istore_n 3, 1) := by decide +kernel
theorem dX4_chain_140 : decode cX4_chain 140 = .ok (.iinc 6 1, 3) := by decide +kernel
theorem dX4_chain_143 : decode cX4_chain 143 = .ok (.goto (-77), 3) := by decide +kernel
theorem dX4_chain_146 : decode cX4_chain 146 = .ok (.iload 5, 2) := by decide +kernel
theorem dX4_chain_148 : decode cX4_chain 148 = .ok (.ireturn, 1) := by decide +kernel
theorem dX4_sounds_0 : decode cX4_sounds 0 = .ok (.iload_n 1, 1) := by decide +kernel
theorem dX4_sounds_1 : decode cX4_sounds 1 = .ok (.iconst 0, 1) := by decide +kernel
theorem dX4_sounds_2 : decode cX4_sounds 2 = .ok (.iconst 1, 1) := by decide +kernel
theorem dX4_sounds_3 : decode cX4_sounds 3 = .ok (.aload_n 0, 1) := by decide +kernel
theorem dX4_sounds_4 : decode cX4_sounds 4 = .ok (.getfield 13, 3) := by decide +kernel
theorem dX4_sounds_7 : decode cX4_sounds 7 = .ok (.iconst 0, 1) := by decide +kernel
theorem dX4_sounds_8 : decode cX4_sounds 8 = .ok (.iaload, 1) := by decide +kernel
theorem dX4_sounds_9 : decode cX4_sounds 9 = .ok (.ishl, 1) := by decide +kernel
theorem dX4_sounds_10 : decode cX4_sounds 10 = .ok (.iconst 1, 1) := by decide +kernel
theorem dX4_sounds_11 : decode cX4_sounds 11 = .ok (.isub, 1) := by decide +kernel
theorem dX4_sounds_12 : decode cX4_sounds 12 = .ok (.invokestatic 57, 3) := by decide +kernel
theorem dX4_sounds_15 : decode cX4_sounds 15 = .ok (.ifCond .ne 5, 3) := by decide +kernel
theorem dX4_sounds_18 : decode cX4_sounds 18 = .ok (.iconst (-1), 1) := by decide +kernel
theorem dX4_sounds_19 : decode cX4_sounds 19 = .ok (.ireturn, 1) := by decide +kernel
theorem dX4_sounds_20 : decode cX4_sounds 20 = .ok (.bipush (-9), 2) := by decide +kernel
theorem dX4_sounds_22 : decode cX4_sounds 22 = .ok (.istore_n 2, 1) := by decide +kernel
theorem dX4_sounds_23 : decode cX4_sounds 23 = .ok (.iconst 0, 1) := by decide +kernel
theorem dX4_sounds_24 : decode cX4_sounds 24 = .ok (.istore_n 3, 1) := by decide +kernel
theorem dX4_sounds_25 : decode cX4_sounds 25 = .ok (.iload_n 3, 1) := by decide +kernel
theorem dX4_sounds_26 : decode cX4_sounds 26 = .ok (.iconst 1, 1) := by decide +kernel
theorem dX4_sounds_27 : decode cX4_sounds 27 = .ok (.aload_n 0, 1) := by decide +kernel
theorem dX4_sounds_28 : decode cX4_sounds 28 = .ok (.getfield 13, 3) := by decide +kernel
theorem dX4_sounds_31 : decode cX4_sounds 31 = .ok (.iconst 0, 1) := by decide +kernel
theorem dX4_sounds_32 : decode cX4_sounds 32 = .ok (.iaload, 1) := by decide +kernel
theorem dX4_sounds_33 : decode cX4_sounds 33 = .ok (.ishl, 1) := by decide +kernel
theorem dX4_sounds_34 : decode cX4_sounds 34 = .ok (.if_icmp .ge 90, 3) := by decide +kernel
theorem dX4_sounds_37 : decode cX4_sounds 37 = .ok (.iload_n 3, 1) := by decide +kernel
theorem dX4_sounds_38 : decode cX4_sounds 38 = .ok (.aload_n 0, 1) := by decide +kernel
theorem dX4_sounds_39 : decode cX4_sounds 39 = .ok (.getfield 23, 3) := by decide +kernel
theorem dX4_sounds_42 : decode cX4_sounds 42 = .ok (.iconst 0, 1) := by decide +kernel
theorem dX4_sounds_43 : decode cX4_sounds 43 = .ok (.iaload, 1) := by decide +kernel
theorem dX4_sounds_44 : decode cX4_sounds 44 = .ok (.iconst (-1), 1) := by decide +kernel
theorem dX4_sounds_45 : decode cX4_sounds 45 = .ok (.ixor, 1) := by decide +kernel
theorem dX4_sounds_46 : decode cX4_sounds 46 = .ok (.iand, 1) := by decide +kernel
theorem dX4_sounds_47 : decode cX4_sounds 47 = .ok (.ifCond .ne 24, 3) := by decide +kernel
theorem dX4_sounds_50 : decode cX4_sounds 50 = .ok (.iload_n 2, 1) := by decide +kernel
theorem dX4_sounds_51 : decode cX4_sounds 51 = .ok (.bipush (-9), 2) := by decide +kernel
theorem dX4_sounds_53 : decode cX4_sounds 53 = .ok (.if_icmp .eq 14, 3) := by decide +kernel
theorem dX4_sounds_56 : decode cX4_sounds 56 = .ok (.iload_n 3, 1) := by decide +kernel
theorem dX4_sounds_57 : decode cX4_sounds 57 = .ok (.invokestatic 170, 3) := by decide +kernel
theorem dX4_sounds_60 : decode cX4_sounds 60 = .ok (.iload_n 2, 1) := by decide +kernel
theorem dX4_sounds_61 : decode cX4_sounds 61 = .ok (.invokestatic 170, 3) := by decide +kernel
theorem dX4_sounds_64 : decode cX4_sounds 64 = .ok (.if_icmp .ge 7, 3) := by decide +kernel
theorem dX4_sounds_67 : decode cX4_sounds 67 = .ok (.iconst 1, 1) := by decide +kernel
theorem dX4_sounds_68 : decode cX4_sounds 68 = .ok (.goto 4, 3) := by decide +kernel
theorem dX4_sounds_71 : decode cX4_sounds 71 = .ok (.iconst 0, 1) := by decide +kernel
theorem dX4_sounds_72 : decode cX4_sounds 72 = .ok (.istore 4, 2) := by decide +kernel
theorem dX4_sounds_74 : decode cX4_sounds 74 = .ok (.iload 4, 2) := by decide +kernel
theorem dX4_sounds_76 : decode cX4_sounds 76 = .ok (.ifCond .eq 40, 3) := by decide +kernel
theorem dX4_sounds_79 : decode cX4_sounds 79 = .ok (.iload_n 1, 1) := by decide +kernel
theorem dX4_sounds_80 : decode cX4_sounds 80 = .ok (.aload_n 0, 1) := by decide +kernel
theorem dX4_sounds_81 : decode cX4_sounds 81 = .ok (.getfield 23, 3) := by decide +kernel
theorem dX4_sounds_84 : decode cX4_sounds 84 = .ok (.iconst 0, 1) := by decide +kernel
theorem dX4_sounds_85 : decode cX4_sounds 85 = .ok (.iaload, 1) := by decide +kernel
theorem dX4_sounds_86 : decode cX4_sounds 86 = .ok (.iconst (-1), 1) := by decide +kernel
theorem dX4_sounds_87 : decode cX4_sounds 87 = .ok (.ixor, 1) := by decide +kernel
theorem dX4_sounds_88 : decode cX4_sounds 88 = .ok (.iand, 1) := by decide +kernel
theorem dX4_sounds_89 : decode cX4_sounds 89 = .ok (.aload_n 0, 1) := by decide +kernel
theorem dX4_sounds_90 : decode cX4_sounds 90 = .ok (.aload_n 0, 1) := by decide +kernel
theorem dX4_sounds_91 : decode cX4_sounds 91 = .ok (.aload_n 0, 1) := by decide +kernel
theorem dX4_sounds_92 : decode cX4_sounds 92 = .ok (.getfield 35, 3) := by decide +kernel
theorem dX4_sounds_95 : decode cX4_sounds 95 = .ok (.bipush 121, 2) := by decide +kernel
theorem dX4_sounds_97 : decode cX4_sounds 97 = .ok (.iaload, 1) := by decide +kernel
theorem dX4_sounds_98 : decode cX4_sounds 98 = .ok (.invokevirtual 133, 3) := by decide +kernel
theorem dX4_sounds_101 : decode cX4_sounds 101 = .ok (.iload_n 3, 1) := by decide +kernel
theorem dX4_sounds_102 : decode cX4_sounds 102 = .ok (.ior, 1) := by decide +kernel
theorem dX4_sounds_103 : decode cX4_sounds 103 = .ok (.invokevirtual 173, 3) := by decide +kernel
theorem dX4_sounds_106 : decode cX4_sounds 106 = .ok (.iconst (-1), 1) := by decide +kernel
theorem dX4_sounds_107 : decode cX4_sounds 107 = .ok (.ixor, 1) := by decide +kernel
theorem dX4_sounds_108 : decode cX4_sounds 108 = .ok (.iand, 1) := by decide +kernel
theorem dX4_sounds_109 : decode cX4_sounds 109 = .ok (.ifCond .ne 7, 3) := by decide +kernel
theorem dX4_sounds_112 : decode cX4_sounds 112 = .ok (.iload_n 3, 1) := by decide +kernel
theorem dX4_sounds_113 : decode cX4_sounds 113 = .ok (.goto 4, 3) := by decide +kernel
theorem dX4_sounds_116 : decode cX4_sounds 116 = .ok (.iload_n 2, 1) := by decide +kernel
theorem dX4_sounds_117 : decode cX4_sounds 117 = .ok (.istore_n 2, 1) := by decide +kernel
theorem dX4_sounds_118 : decode cX4_sounds 118 = .ok (.iinc 3 1, 3) := by decide +kernel
theorem dX4_sounds_121 : decode cX4_sounds 121 = .ok (.goto (-96), 3) := by decide +kernel
theorem dX4_sounds_124 : decode cX4_sounds 124 = .ok (.iload_n 2, 1) := by decide +kernel
theorem dX4_sounds_125 : decode cX4_sounds 125 = .ok (.ireturn, 1) := by decide +kernel
theorem dX4_began_0 : decode cX4_began 0 = .ok (.iload_n 1, 1) := by decide +kernel
theorem dX4_began_1 : decode cX4_began 1 = .ok (.iconst 0, 1) := by decide +kernel
theorem dX4_began_2 : decode cX4_began 2 = .ok (.iconst 1, 1) := by decide +kernel
theorem dX4_began_3 : decode cX4_began 3 = .ok (.aload_n 0, 1) := by decide +kernel
theorem dX4_began_4 : decode cX4_began 4 = .ok (.getfield 13, 3) := by decide +kernel
theorem dX4_began_7 : decode cX4_began 7 = .ok (.iconst 0, 1) := by decide +kernel
theorem dX4_began_8 : decode cX4_began 8 = .ok (.iaload, 1) := by decide +kernel
theorem dX4_began_9 : decode cX4_began 9 = .ok (.ishl, 1) := by decide +kernel
theorem dX4_began_10 : decode cX4_began 10 = .ok (.iconst 1, 1) := by decide +kernel
theorem dX4_began_11 : decode cX4_began 11 = .ok (.isub, 1) := by decide +kernel
theorem dX4_began_12 : decode cX4_began 12 = .ok (.invokestatic 57, 3) := by decide +kernel
theorem dX4_began_15 : decode cX4_began 15 = .ok (.ifCond .ne 5, 3) := by decide +kernel
theorem dX4_began_18 : decode cX4_began 18 = .ok (.iconst (-1), 1) := by decide +kernel
theorem dX4_began_19 : decode cX4_began 19 = .ok (.ireturn, 1) := by decide +kernel
theorem dX4_began_20 : decode cX4_began 20 = .ok (.iconst 0, 1) := by decide +kernel
theorem dX4_began_21 : decode cX4_began 21 = .ok (.istore_n 2, 1) := by decide +kernel
theorem dX4_began_22 : decode cX4_began 22 = .ok (.iconst 0, 1) := by decide +kernel
theorem dX4_began_23 : decode cX4_began 23 = .ok (.istore_n 3, 1) := by decide +kernel
theorem dX4_began_24 : decode cX4_began 24 = .ok (.iload_n 3, 1) := by decide +kernel
theorem dX4_began_25 : decode cX4_began 25 = .ok (.aload_n 0, 1) := by decide +kernel
theorem dX4_began_26 : decode cX4_began 26 = .ok (.getfield 13, 3) := by decide +kernel
theorem dX4_began_29 : decode cX4_began 29 = .ok (.iconst 0, 1) := by decide +kernel
theorem dX4_began_30 : decode cX4_began 30 = .ok (.iaload, 1) := by decide +kernel
theorem dX4_began_31 : decode cX4_began 31 = .ok (.if_icmp .ge 50, 3) := by decide +kernel
theorem dX4_began_34 : decode cX4_began 34 = .ok (.iload_n 2, 1) := by decide +kernel
theorem dX4_began_35 : decode cX4_began 35 = .ok (.aload_n 0, 1) := by decide +kernel
theorem dX4_began_36 : decode cX4_began 36 = .ok (.iload_n 3, 1) := by decide +kernel
theorem dX4_began_37 : decode cX4_began 37 = .ok (.invokevirtual 120, 3) := by decide +kernel
theorem dX4_began_40 : decode cX4_began 40 = .ok (.ifCond .eq 32, 3) := by decide +kernel
theorem dX4_began_43 : decode cX4_began 43 = .ok (.iload_n 1, 1) := by decide +kernel
theorem dX4_began_44 : decode cX4_began 44 = .ok (.aload_n 0, 1) := by decide +kernel
theorem dX4_began_45 : decode cX4_began 45 = .ok (.getfield 23, 3) := by decide +kernel
theorem dX4_began_48 : decode cX4_began 48 = .ok (.iconst 0, 1) := by decide +kernel
theorem dX4_began_49 : decode cX4_began 49 = .ok (.iaload, 1) := by decide +kernel
theorem dX4_began_50 : decode cX4_began 50 = .ok (.iconst (-1), 1) := by decide +kernel
theorem dX4_began_51 : decode cX4_began 51 = .ok (.ixor, 1) := by decide +kernel
theorem dX4_began_52 : decode cX4_began 52 = .ok (.iand, 1) := by decide +kernel
theorem dX4_began_53 : decode cX4_began 53 = .ok (.aload_n 0, 1) := by decide +kernel
theorem dX4_began_54 : decode cX4_began 54 = .ok (.iconst 1, 1) := by decide +kernel
theorem dX4_began_55 : decode cX4_began 55 = .ok (.iload_n 3, 1) := by decide +kernel
theorem dX4_began_56 : decode cX4_began 56 = .ok (.ishl, 1) := by decide +kernel
theorem dX4_began_57 : decode cX4_began 57 = .ok (.invokevirtual 173, 3) := by decide +kernel
theorem dX4_began_60 : decode cX4_began 60 = .ok (.iconst (-1), 1) := by decide +kernel
theorem dX4_began_61 : decode cX4_began 61 = .ok (.ixor, 1) := by decide +kernel
theorem dX4_began_62 : decode cX4_began 62 = .ok (.iand, 1) := by decide +kernel
theorem dX4_began_63 : decode cX4_began 63 = .ok (.ifCond .ne 9, 3) := by decide +kernel
theorem dX4_began_66 : decode cX4_began 66 = .ok (.iconst 1, 1) := by decide +kernel
theorem dX4_began_67 : decode cX4_began 67 = .ok (.iload_n 3, 1) := by decide +kernel
theorem dX4_began_68 : decode cX4_began 68 = .ok (.ishl, 1) := by decide +kernel
theorem dX4_began_69 : decode cX4_began 69 = .ok (.goto 4, 3) := by decide +kernel
theorem dX4_began_72 : decode cX4_began 72 = .ok (.iconst 0, 1) := by decide +kernel
theorem dX4_began_73 : decode cX4_began 73 = .ok (.ior, 1) := by decide +kernel
theorem dX4_began_74 : decode cX4_began 74 = .ok (.istore_n 2, 1) := by decide +kernel
theorem dX4_began_75 : decode cX4_began 75 = .ok (.iinc 3 1, 3) := by decide +kernel
theorem dX4_began_78 : decode cX4_began 78 = .ok (.goto (-54), 3) := by decide +kernel
theorem dX4_began_81 : decode cX4_began 81 = .ok (.iload_n 2, 1) := by decide +kernel
theorem dX4_began_82 : decode cX4_began 82 = .ok (.ireturn, 1) := by decide +kernel
theorem dX4_odds_0 : decode cX4_odds 0 = .ok (.aload_n 0, 1) := by decide +kernel
theorem dX4_odds_1 : decode cX4_odds 1 = .ok (.iload_n 1, 1) := by decide +kernel
theorem dX4_odds_2 : decode cX4_odds 2 = .ok (.invokevirtual 117, 3) := by decide +kernel
theorem dX4_odds_5 : decode cX4_odds 5 = .ok (.ifCond .eq 22, 3) := by decide +kernel
theorem dX4_odds_8 : decode cX4_odds 8 = .ok (.iload_n 2, 1) := by decide +kernel
theorem dX4_odds_9 : decode cX4_odds 9 = .ok (.iconst 0, 1) := by decide +kernel
theorem dX4_odds_10 : decode cX4_odds 10 = .ok (.bipush 10, 2) := by decide +kernel
theorem dX4_odds_12 : decode cX4_odds 12 = .ok (.invokestatic 57, 3) := by decide +kernel
theorem dX4_odds_15 : decode cX4_odds 15 = .ok (.ifCond .eq 12, 3) := by decide +kernel
theorem dX4_odds_18 : decode cX4_odds 18 = .ok (.iload_n 3, 1) := by decide +kernel
theorem dX4_odds_19 : decode cX4_odds 19 = .ok (.iconst 0, 1) := by decide +kernel
theorem dX4_odds_20 : decode cX4_odds 20 = .ok (.iconst 1, 1) := by decide +kernel
theorem dX4_odds_21 : decode cX4_odds 21 = .ok (.invokestatic 57, 3) := by decide +kernel
theorem dX4_odds_24 : decode cX4_odds 24 = .ok (.ifCond .ne 5, 3) := by decide +kernel
theorem dX4_odds_27 : decode cX4_odds 27 = .ok (.iconst (-1), 1) := by decide +kernel
theorem dX4_odds_28 : decode cX4_odds 28 = .ok (.ireturn, 1) := by decide +kernel
theorem dX4_odds_29 : decode cX4_odds 29 = .ok (.iconst 0, 1) := by decide +kernel
theorem dX4_odds_30 : decode cX4_odds 30 = .ok (.istore 4, 2) := by decide +kernel
theorem dX4_odds_32 : decode cX4_odds 32 = .ok (.iconst 1, 1) := by decide +kernel
theorem dX4_odds_33 : decode cX4_odds 33 = .ok (.istore 5, 2) := by decide +kernel
theorem dX4_odds_35 : decode cX4_odds 35 = .ok (.iconst 0, 1) := by decide +kernel
theorem dX4_odds_36 : decode cX4_odds 36 = .ok (.istore 6, 2) := by decide +kernel
theorem dX4_odds_38 : decode cX4_odds 38 = .ok (.iload 6, 2) := by decide +kernel
theorem dX4_odds_40 : decode cX4_odds 40 = .ok (.aload_n 0, 1) := by decide +kernel
theorem dX4_odds_41 : decode cX4_odds 41 = .ok (.getfield 23, 3) := by decide +kernel
theorem dX4_odds_44 : decode cX4_odds 44 = .ok (.iconst 0, 1) := by decide +kernel
theorem dX4_odds_45 : decode cX4_odds 45 = .ok (.iaload, 1) := by decide +kernel
theorem dX4_odds_46 : decode cX4_odds 46 = .ok (.invokestatic 170, 3) := by decide +kernel
theorem dX4_odds_49 : decode cX4_odds 49 = .ok (.if_icmp .ge 16, 3) := by decide +kernel
theorem dX4_odds_52 : decode cX4_odds 52 = .ok (.iload 5, 2) := by decide +kernel
theorem dX4_odds_54 : decode cX4_odds 54 = .ok (.bipush 10, 2) := by decide +kernel
theorem dX4_odds_56 : decode cX4_odds 56 = .ok (.imul, 1) := by decide +kernel
theorem dX4_odds_57 : decode cX4_odds 57 = .ok (.istore 5, 2) := by decide +kernel
theorem dX4_odds_59 : decode cX4_odds 59 = .ok (.iinc 6 1, 3) := by decide +kernel
theorem dX4_odds_62 : decode cX4_odds 62 = .ok (.goto (-24), 3) := by decide +kernel
theorem dX4_odds_65 : decode cX4_odds 65 = .ok (.iconst 0, 1) := by decide +kernel
theorem dX4_odds_66 : decode cX4_odds 66 = .ok (.istore 6, 2) := by decide +kernel
theorem dX4_odds_68 : decode cX4_odds 68 = .ok (.iload 6, 2) := by decide +kernel
theorem dX4_odds_70 : decode cX4_odds 70 = .ok (.iconst 1, 1) := by decide +kernel
theorem dX4_odds_71 : decode cX4_odds 71 = .ok (.aload_n 0, 1) := by decide +kernel
theorem dX4_odds_72 : decode cX4_odds 72 = .ok (.getfield 13, 3) := by decide +kernel
theorem dX4_odds_75 : decode cX4_odds 75 = .ok (.iconst 0, 1) := by decide +kernel
theorem dX4_odds_76 : decode cX4_odds 76 = .ok (.iaload, 1) := by decide +kernel
theorem dX4_odds_77 : decode cX4_odds 77 = .ok (.ishl, 1) := by decide +kernel
theorem dX4_odds_78 : decode cX4_odds 78 = .ok (.if_icmp .ge 111, 3) := by decide +kernel
theorem dX4_odds_81 : decode cX4_odds 81 = .ok (.iload 6, 2) := by decide +kernel
theorem dX4_odds_83 : decode cX4_odds 83 = .ok (.aload_n 0, 1) := by decide +kernel
theorem dX4_odds_84 : decode cX4_odds 84 = .ok (.getfield 23, 3) := by decide +kernel
theorem dX4_odds_87 : decode cX4_odds 87 = .ok (.iconst 0, 1) := by decide +kernel
theorem dX4_odds_88 : decode cX4_odds 88 = .ok (.iaload, 1) := by decide +kernel
theorem dX4_odds_89 : decode cX4_odds 89 = .ok (.iconst (-1), 1) := by decide +kernel
theorem dX4_odds_90 : decode cX4_odds 90 = .ok (.ixor, 1) := by decide +kernel
theorem dX4_odds_91 : decode cX4_odds 91 = .ok (.iand, 1) := by decide +kernel
theorem dX4_odds_92 : decode cX4_odds 92 = .ok (.ifCond .ne 24, 3) := by decide +kernel
theorem dX4_odds_95 : decode cX4_odds 95 = .ok (.iload 6, 2) := by decide +kernel
theorem dX4_odds_97 : decode cX4_odds 97 = .ok (.aload_n 0, 1) := by decide +kernel
theorem dX4_odds_98 : decode cX4_odds 98 = .ok (.iload 6, 2) := by decide +kernel
theorem dX4_odds_100 : decode cX4_odds 100 = .ok (.invokevirtual 173, 3) := by decide +kernel
theorem dX4_odds_103 : decode cX4_odds 103 = .ok (.ior, 1) := by decide +kernel
theorem dX4_odds_104 : decode cX4_odds 104 = .ok (.iload_n 1, 1) := by decide +kernel
theorem dX4_odds_105 : decode cX4_odds 105 = .ok (.ishr, 1) := by decide +kernel
theorem dX4_odds_106 : decode cX4_odds 106 = .ok (.iconst 1, 1) := by decide +kernel
theorem dX4_odds_107 : decode cX4_odds 107 = .ok (.iand, 1) := by decide +kernel
theorem dX4_odds_108 : decode cX4_odds 108 = .ok (.iconst 1, 1) := by decide +kernel
theorem dX4_odds_109 : decode cX4_odds 109 = .ok (.if_icmp .ne 7, 3) := by decide +kernel
theorem dX4_odds_112 : decode cX4_odds 112 = .ok (.iconst 1, 1) := by decide +kernel
theorem dX4_odds_113 : decode cX4_odds 113 = .ok (.goto 4, 3) := by decide +kernel
theorem dX4_odds_116 : decode cX4_odds 116 = .ok (.iconst 0, 1) := by decide +kernel
theorem dX4_odds_117 : decode cX4_odds 117 = .ok (.istore 7, 2) := by decide +kernel
theorem dX4_odds_119 : decode cX4_odds 119 = .ok (.iconst 0, 1) := by decide +kernel
theorem dX4_odds_120 : decode cX4_odds 120 = .ok (.istore 8, 2) := by decide +kernel
theorem dX4_odds_122 : decode cX4_odds 122 = .ok (.iload 8, 2) := by decide +kernel
theorem dX4_odds_124 : decode cX4_odds 124 = .ok (.aload_n 0, 1) := by decide +kernel
theorem dX4_odds_125 : decode cX4_odds 125 = .ok (.getfield 13, 3) := by decide +kernel
theorem dX4_odds_128 : decode cX4_odds 128 = .ok (.iconst 0, 1) := by decide +kernel
theorem dX4_odds_129 : decode cX4_odds 129 = .ok (.iaload, 1) := by decide +kernel
theorem dX4_odds_130 : decode cX4_odds 130 = .ok (.if_icmp .ge 46, 3) := by decide +kernel
theorem dX4_odds_133 : decode cX4_odds 133 = .ok (.iload 7, 2) := by decide +kernel
theorem dX4_odds_135 : decode cX4_odds 135 = .ok (.aload_n 0, 1) := by decide +kernel
theorem dX4_odds_136 : decode cX4_odds 136 = .ok (.iload 8, 2) := by decide +kernel
theorem dX4_odds_138 : decode cX4_odds 138 = .ok (.invokevirtual 120, 3) := by decide +kernel
theorem dX4_odds_141 : decode cX4_odds 141 = .ok (.ifCond .ne 7, 3) := by decide +kernel
theorem dX4_odds_144 : decode cX4_odds 144 = .ok (.iconst 1, 1) := by decide +kernel
theorem dX4_odds_145 : decode cX4_odds 145 = .ok (.goto 22, 3) := by decide +kernel
theorem dX4_odds_148 : decode cX4_odds 148 = .ok (.iload 6, 2) := by decide +kernel
theorem dX4_odds_150 : decode cX4_odds 150 = .ok (.iload 8, 2) := by decide +kernel
theorem dX4_odds_152 : decode cX4_odds 152 = .ok (.ishr, 1) := by decide +kernel
theorem dX4_odds_153 : decode cX4_odds 153 = .ok (.iconst 1, 1) := by decide +kernel
theorem dX4_odds_154 : decode cX4_odds 154 = .ok (.iand, 1) := by decide +kernel
theorem dX4_odds_155 : decode cX4_odds 155 = .ok (.iconst 1, 1) := by decide +kernel
theorem dX4_odds_156 : decode cX4_odds 156 = .ok (.if_icmp .ne 7, 3) := by decide +kernel
theorem dX4_odds_159 : decode cX4_odds 159 = .ok (.iload_n 2, 1) := by decide +kernel
theorem dX4_odds_160 : decode cX4_odds 160 = .ok (.goto 7, 3) := by decide +kernel
theorem dX4_odds_163 : decode cX4_odds 163 = .ok (.bipush 10, 2) := by decide +kernel
theorem dX4_odds_165 : decode cX4_odds 165 = .ok (.iload_n 2, 1) := by decide +kernel
theorem dX4_odds_166 : decode cX4_odds 166 = .ok (.isub, 1) := by decide +kernel
theorem dX4_odds_167 : decode cX4_odds 167 = .ok (.imul, 1) := by decide +kernel
theorem dX4_odds_168 : decode cX4_odds 168 = .ok (.istore 7, 2) := by decide +kernel
theorem dX4_odds_170 : decode cX4_odds 170 = .ok (.iinc 8 1, 3) := by decide +kernel
theorem dX4_odds_173 : decode cX4_odds 173 = .ok (.goto (-51), 3) := by decide +kernel
theorem dX4_odds_176 : decode cX4_odds 176 = .ok (.iload 4, 2) := by decide +kernel
theorem dX4_odds_178 : decode cX4_odds 178 = .ok (.iload 7, 2) := by decide +kernel
theorem dX4_odds_180 : decode cX4_odds 180 = .ok (.iadd, 1) := by decide +kernel
theorem dX4_odds_181 : decode cX4_odds 181 = .ok (.istore 4, 2) := by decide +kernel
theorem dX4_odds_183 : decode cX4_odds 183 = .ok (.iinc 6 1, 3) := by decide +kernel
theorem dX4_odds_186 : decode cX4_odds 186 = .ok (.goto (-118), 3) := by decide +kernel
theorem dX4_odds_189 : decode cX4_odds 189 = .ok (.iload 4, 2) := by decide +kernel
theorem dX4_odds_191 : decode cX4_odds 191 = .ok (.istore 6, 2) := by decide +kernel
theorem dX4_odds_193 : decode cX4_odds 193 = .ok (.iload 5, 2) := by decide +kernel
theorem dX4_odds_195 : decode cX4_odds 195 = .ok (.istore 7, 2) := by decide +kernel
theorem dX4_odds_197 : decode cX4_odds 197 = .ok (.iload 7, 2) := by decide +kernel
theorem dX4_odds_199 : decode cX4_odds 199 = .ok (.ifCond .eq 21, 3) := by decide +kernel
theorem dX4_odds_202 : decode cX4_odds 202 = .ok (.iload 6, 2) := by decide +kernel
theorem dX4_odds_204 : decode cX4_odds 204 = .ok (.iload 7, 2) := by decide +kernel
theorem dX4_odds_206 : decode cX4_odds 206 = .ok (.irem, 1) := by decide +kernel
theorem dX4_odds_207 : decode cX4_odds 207 = .ok (.istore 8, 2) := by decide +kernel
theorem dX4_odds_209 : decode cX4_odds 209 = .ok (.iload 7, 2) := by decide +kernel
theorem dX4_odds_211 : decode cX4_odds 211 = .ok (.istore 6, 2) := by decide +kernel
theorem dX4_odds_213 : decode cX4_odds 213 = .ok (.iload 8, 2) := by decide +kernel
theorem dX4_odds_215 : decode cX4_odds 215 = .ok (.istore 7, 2) := by decide +kernel
theorem dX4_odds_217 : decode cX4_odds 217 = .ok (.goto (-20), 3) := by decide +kernel
theorem dX4_odds_220 : decode cX4_odds 220 = .ok (.iload_n 3, 1) := by decide +kernel
theorem dX4_odds_221 : decode cX4_odds 221 = .ok (.ifCond .ne 11, 3) := by decide +kernel
theorem dX4_odds_224 : decode cX4_odds 224 = .ok (.iload 4, 2) := by decide +kernel
theorem dX4_odds_226 : decode cX4_odds 226 = .ok (.iload 6, 2) := by decide +kernel
theorem dX4_odds_228 : decode cX4_odds 228 = .ok (.idiv, 1) := by decide +kernel
theorem dX4_odds_229 : decode cX4_odds 229 = .ok (.goto 8, 3) := by decide +kernel
theorem dX4_odds_232 : decode cX4_odds 232 = .ok (.iload 5, 2) := by decide +kernel
theorem dX4_odds_234 : decode cX4_odds 234 = .ok (.iload 6, 2) := by decide +kernel
theorem dX4_odds_236 : decode cX4_odds 236 = .ok (.idiv, 1) := by decide +kernel
theorem dX4_odds_237 : decode cX4_odds 237 = .ok (.ireturn, 1) := by decide +kernel
theorem dX4_tells_0 : decode cX4_tells 0 = .ok (.aload_n 0, 1) := by decide +kernel
theorem dX4_tells_1 : decode cX4_tells 1 = .ok (.iload_n 1, 1) := by decide +kernel
theorem dX4_tells_2 : decode cX4_tells 2 = .ok (.invokevirtual 117, 3) := by decide +kernel
theorem dX4_tells_5 : decode cX4_tells 5 = .ok (.ifCond .eq 16, 3) := by decide +kernel
theorem dX4_tells_8 : decode cX4_tells 8 = .ok (.aload_n 0, 1) := by decide +kernel
theorem dX4_tells_9 : decode cX4_tells 9 = .ok (.iload_n 2, 1) := by decide +kernel
theorem dX4_tells_10 : decode cX4_tells 10 = .ok (.invokevirtual 117, 3) := by decide +kernel
theorem dX4_tells_13 : decode cX4_tells 13 = .ok (.ifCond .eq 8, 3) := by decide +kernel
theorem dX4_tells_16 : decode cX4_tells 16 = .ok (.iload_n 1, 1) := by decide +kernel
theorem dX4_tells_17 : decode cX4_tells 17 = .ok (.iload_n 2, 1) := by decide +kernel
theorem dX4_tells_18 : decode cX4_tells 18 = .ok (.if_icmp .ne 5, 3) := by decide +kernel
theorem dX4_tells_21 : decode cX4_tells 21 = .ok (.iconst (-1), 1) := by decide +kernel
theorem dX4_tells_22 : decode cX4_tells 22 = .ok (.ireturn, 1) := by decide +kernel
theorem dX4_tells_23 : decode cX4_tells 23 = .ok (.aload_n 0, 1) := by decide +kernel
theorem dX4_tells_24 : decode cX4_tells 24 = .ok (.getfield 102, 3) := by decide +kernel
