theorem dX1_init_0 : decode cX1_init 0 = .ok (.aload_n 0, 1) := by decide +kernel
theorem dX1_init_1 : decode cX1_init 1 = .ok (.invokespecial 3, 3) := by decide +kernel
theorem dX1_init_4 : decode cX1_init 4 = .ok (.aload_n 0, 1) := by decide +kernel
theorem dX1_init_5 : decode cX1_init 5 = .ok (.bipush 30, 2) := by decide +kernel
theorem dX1_init_7 : decode cX1_init 7 = .ok (.newarray .int, 2) := by decide +kernel
theorem dX1_init_9 : decode cX1_init 9 = .ok (.putfield 9, 3) := by decide +kernel
theorem dX1_init_12 : decode cX1_init 12 = .ok (.aload_n 0, 1) := by decide +kernel
theorem dX1_init_13 : decode cX1_init 13 = .ok (.bipush 30, 2) := by decide +kernel
theorem dX1_init_15 : decode cX1_init 15 = .ok (.newarray .int, 2) := by decide +kernel
theorem dX1_init_17 : decode cX1_init 17 = .ok (.putfield 15, 3) := by decide +kernel
theorem dX1_init_20 : decode cX1_init 20 = .ok (.aload_n 0, 1) := by decide +kernel
theorem dX1_init_21 : decode cX1_init 21 = .ok (.bipush 30, 2) := by decide +kernel
theorem dX1_init_23 : decode cX1_init 23 = .ok (.newarray .int, 2) := by decide +kernel
theorem dX1_init_25 : decode cX1_init 25 = .ok (.putfield 18, 3) := by decide +kernel
theorem dX1_init_28 : decode cX1_init 28 = .ok (.aload_n 0, 1) := by decide +kernel
theorem dX1_init_29 : decode cX1_init 29 = .ok (.bipush 30, 2) := by decide +kernel
theorem dX1_init_31 : decode cX1_init 31 = .ok (.newarray .int, 2) := by decide +kernel
theorem dX1_init_33 : decode cX1_init 33 = .ok (.putfield 21, 3) := by decide +kernel
theorem dX1_init_36 : decode cX1_init 36 = .ok (.aload_n 0, 1) := by decide +kernel
theorem dX1_init_37 : decode cX1_init 37 = .ok (.bipush 30, 2) := by decide +kernel
theorem dX1_init_39 : decode cX1_init 39 = .ok (.newarray .int, 2) := by decide +kernel
theorem dX1_init_41 : decode cX1_init 41 = .ok (.putfield 24, 3) := by decide +kernel
theorem dX1_init_44 : decode cX1_init 44 = .ok (.aload_n 0, 1) := by decide +kernel
theorem dX1_init_45 : decode cX1_init 45 = .ok (.bipush 30, 2) := by decide +kernel
theorem dX1_init_47 : decode cX1_init 47 = .ok (.newarray .int, 2) := by decide +kernel
theorem dX1_init_49 : decode cX1_init 49 = .ok (.putfield 27, 3) := by decide +kernel
theorem dX1_init_52 : decode cX1_init 52 = .ok (.return_, 1) := by decide +kernel
theorem dX1_reset_0 : decode cX1_reset 0 = .ok (.aload_n 0, 1) := by decide +kernel
theorem dX1_reset_1 : decode cX1_reset 1 = .ok (.iconst 0, 1) := by decide +kernel
theorem dX1_reset_2 : decode cX1_reset 2 = .ok (.putfield 30, 3) := by decide +kernel
theorem dX1_reset_5 : decode cX1_reset 5 = .ok (.aload_n 0, 1) := by decide +kernel
theorem dX1_reset_6 : decode cX1_reset 6 = .ok (.iconst 0, 1) := by decide +kernel
theorem dX1_reset_7 : decode cX1_reset 7 = .ok (.putfield 34, 3) := by decide +kernel
theorem dX1_reset_10 : decode cX1_reset 10 = .ok (.aload_n 0, 1) := by decide +kernel
theorem dX1_reset_11 : decode cX1_reset 11 = .ok (.iconst 0, 1) := by decide +kernel
theorem dX1_reset_12 : decode cX1_reset 12 = .ok (.putfield 37, 3) := by decide +kernel
theorem dX1_reset_15 : decode cX1_reset 15 = .ok (.aload_n 0, 1) := by decide +kernel
theorem dX1_reset_16 : decode cX1_reset 16 = .ok (.iconst 0, 1) := by decide +kernel
theorem dX1_reset_17 : decode cX1_reset 17 = .ok (.putfield 40, 3) := by decide +kernel
theorem dX1_reset_20 : decode cX1_reset 20 = .ok (.return_, 1) := by decide +kernel
theorem dX1_become_0 : decode cX1_become 0 = .ok (.aload_n 1, 1) := by decide +kernel
theorem dX1_become_1 : decode cX1_become 1 = .ok (.getfield 9, 3) := by decide +kernel
theorem dX1_become_4 : decode cX1_become 4 = .ok (.iconst 0, 1) := by decide +kernel
theorem dX1_become_5 : decode cX1_become 5 = .ok (.aload_n 0, 1) := by decide +kernel
theorem dX1_become_6 : decode cX1_become 6 = .ok (.getfield 9, 3) := by decide +kernel
theorem dX1_become_9 : decode cX1_become 9 = .ok (.iconst 0, 1) := by decide +kernel
theorem dX1_become_10 : decode cX1_become 10 = .ok (.bipush 30, 2) := by decide +kernel
theorem dX1_become_12 : decode cX1_become 12 = .ok (.invokestatic 43, 3) := by decide +kernel
theorem dX1_become_15 : decode cX1_become 15 = .ok (.aload_n 1, 1) := by decide +kernel
theorem dX1_become_16 : decode cX1_become 16 = .ok (.getfield 15, 3) := by decide +kernel
theorem dX1_become_19 : decode cX1_become 19 = .ok (.iconst 0, 1) := by decide +kernel
theorem dX1_become_20 : decode cX1_become 20 = .ok (.aload_n 0, 1) := by decide +kernel
theorem dX1_become_21 : decode cX1_become 21 = .ok (.getfield 15, 3) := by decide +kernel
theorem dX1_become_24 : decode cX1_become 24 = .ok (.iconst 0, 1) := by decide +kernel
theorem dX1_become_25 : decode cX1_become 25 = .ok (.bipush 30, 2) := by decide +kernel
theorem dX1_become_27 : decode cX1_become 27 = .ok (.invokestatic 43, 3) := by decide +kernel
theorem dX1_become_30 : decode cX1_become 30 = .ok (.aload_n 1, 1) := by decide +kernel
theorem dX1_become_31 : decode cX1_become 31 = .ok (.getfield 18, 3) := by decide +kernel
theorem dX1_become_34 : decode cX1_become 34 = .ok (.iconst 0, 1) := by decide +kernel
theorem dX1_become_35 : decode cX1_become 35 = .ok (.aload_n 0, 1) := by decide +kernel
theorem dX1_become_36 : decode cX1_become 36 = .ok (.getfield 18, 3) := by decide +kernel
theorem dX1_become_39 : decode cX1_become 39 = .ok (.iconst 0, 1) := by decide +kernel
theorem dX1_become_40 : decode cX1_become 40 = .ok (.bipush 30, 2) := by decide +kernel
theorem dX1_become_42 : decode cX1_become 42 = .ok (.invokestatic 43, 3) := by decide +kernel
theorem dX1_become_45 : decode cX1_become 45 = .ok (.aload_n 1, 1) := by decide +kernel
theorem dX1_become_46 : decode cX1_become 46 = .ok (.getfield 21, 3) := by decide +kernel
theorem dX1_become_49 : decode cX1_become 49 = .ok (.iconst 0, 1) := by decide +kernel
theorem dX1_become_50 : decode cX1_become 50 = .ok (.aload_n 0, 1) := by decide +kernel
theorem dX1_become_51 : decode cX1_become 51 = .ok (.getfield 21, 3) := by decide +kernel
theorem dX1_become_54 : decode cX1_become 54 = .ok (.iconst 0, 1) := by decide +kernel
theorem dX1_become_55 : decode cX1_become 55 = .ok (.bipush 30, 2) := by decide +kernel
theorem dX1_become_57 : decode cX1_become 57 = .ok (.invokestatic 43, 3) := by decide +kernel
theorem dX1_become_60 : decode cX1_become 60 = .ok (.aload_n 1, 1) := by decide +kernel
theorem dX1_become_61 : decode cX1_become 61 = .ok (.getfield 24, 3) := by decide +kernel
theorem dX1_become_64 : decode cX1_become 64 = .ok (.iconst 0, 1) := by decide +kernel
theorem dX1_become_65 : decode cX1_become 65 = .ok (.aload_n 0, 1) := by decide +kernel
theorem dX1_become_66 : decode cX1_become 66 = .ok (.getfield 24, 3) := by decide +kernel
theorem dX1_become_69 : decode cX1_become 69 = .ok (.iconst 0, 1) := by decide +kernel
theorem dX1_become_70 : decode cX1_become 70 = .ok (.bipush 30, 2) := by decide +kernel
theorem dX1_become_72 : decode cX1_become 72 = .ok (.invokestatic 43, 3) := by decide +kernel
theorem dX1_become_75 : decode cX1_become 75 = .ok (.aload_n 1, 1) := by decide +kernel
theorem dX1_become_76 : decode cX1_become 76 = .ok (.getfield 27, 3) := by decide +kernel
theorem dX1_become_79 : decode cX1_become 79 = .ok (.iconst 0, 1) := by decide +kernel
theorem dX1_become_80 : decode cX1_become 80 = .ok (.aload_n 0, 1) := by decide +kernel
theorem dX1_become_81 : decode cX1_become 81 = .ok (.getfield 27, 3) := by decide +kernel
theorem dX1_become_84 : decode cX1_become 84 = .ok (.iconst 0, 1) := by decide +kernel
theorem dX1_become_85 : decode cX1_become 85 = .ok (.bipush 30, 2) := by decide +kernel
theorem dX1_become_87 : decode cX1_become 87 = .ok (.invokestatic 43, 3) := by decide +kernel
theorem dX1_become_90 : decode cX1_become 90 = .ok (.aload_n 0, 1) := by decide +kernel
theorem dX1_become_91 : decode cX1_become 91 = .ok (.aload_n 1, 1) := by decide +kernel
theorem dX1_become_92 : decode cX1_become 92 = .ok (.getfield 30, 3) := by decide +kernel
theorem dX1_become_95 : decode cX1_become 95 = .ok (.putfield 30, 3) := by decide +kernel
theorem dX1_become_98 : decode cX1_become 98 = .ok (.aload_n 0, 1) := by decide +kernel
theorem dX1_become_99 : decode cX1_become 99 = .ok (.aload_n 1, 1) := by decide +kernel
theorem dX1_become_100 : decode cX1_become 100 = .ok (.getfield 34, 3) := by decide +kernel
theorem dX1_become_103 : decode cX1_become 103 = .ok (.putfield 34, 3) := by decide +kernel
theorem dX1_become_106 : decode cX1_become 106 = .ok (.aload_n 0, 1) := by decide +kernel
theorem dX1_become_107 : decode cX1_become 107 = .ok (.aload_n 1, 1) := by decide +kernel
theorem dX1_become_108 : decode cX1_become 108 = .ok (.getfield 37, 3) := by decide +kernel
theorem dX1_become_111 : decode cX1_become 111 = .ok (.putfield 37, 3) := by decide +kernel
theorem dX1_become_114 : decode cX1_become 114 = .ok (.aload_n 0, 1) := by decide +kernel
theorem dX1_become_115 : decode cX1_become 115 = .ok (.aload_n 1, 1) := by decide +kernel
theorem dX1_become_116 : decode cX1_become 116 = .ok (.getfield 40, 3) := by decide +kernel
theorem dX1_become_119 : decode cX1_become 119 = .ok (.putfield 40, 3) := by decide +kernel
theorem dX1_become_122 : decode cX1_become 122 = .ok (.return_, 1) := by decide +kernel
theorem dX1_has_0 : decode cX1_has 0 = .ok (.iload_n 1, 1) := by decide +kernel
theorem dX1_has_1 : decode cX1_has 1 = .ok (.ifCond .lt 21, 3) := by decide +kernel
theorem dX1_has_4 : decode cX1_has 4 = .ok (.iload_n 1, 1) := by decide +kernel
theorem dX1_has_5 : decode cX1_has 5 = .ok (.aload_n 0, 1) := by decide +kernel
theorem dX1_has_6 : decode cX1_has 6 = .ok (.getfield 30, 3) := by decide +kernel
theorem dX1_has_9 : decode cX1_has 9 = .ok (.if_icmp .ge 13, 3) := by decide +kernel
theorem dX1_has_12 : decode cX1_has 12 = .ok (.iload_n 1, 1) := by decide +kernel
theorem dX1_has_13 : decode cX1_has 13 = .ok (.bipush 30, 2) := by decide +kernel
theorem dX1_has_15 : decode cX1_has 15 = .ok (.if_icmp .ge 7, 3) := by decide +kernel
theorem dX1_has_18 : decode cX1_has 18 = .ok (.iconst 1, 1) := by decide +kernel
theorem dX1_has_19 : decode cX1_has 19 = .ok (.goto 4, 3) := by decide +kernel
theorem dX1_has_22 : decode cX1_has 22 = .ok (.iconst 0, 1) := by decide +kernel
theorem dX1_has_23 : decode cX1_has 23 = .ok (.ireturn, 1) := by decide +kernel
theorem dX1_add_0 : decode cX1_add 0 = .ok (.aload_n 0, 1) := by decide +kernel
theorem dX1_add_1 : decode cX1_add 1 = .ok (.getfield 30, 3) := by decide +kernel
theorem dX1_add_4 : decode cX1_add 4 = .ok (.ifCond .lt 12, 3) := by decide +kernel
theorem dX1_add_7 : decode cX1_add 7 = .ok (.aload_n 0, 1) := by decide +kernel
theorem dX1_add_8 : decode cX1_add 8 = .ok (.getfield 30, 3) := by decide +kernel
theorem dX1_add_11 : decode cX1_add 11 = .ok (.bipush 30, 2) := by decide +kernel
theorem dX1_add_13 : decode cX1_add 13 = .ok (.if_icmp .lt 5, 3) := by decide +kernel
theorem dX1_add_16 : decode cX1_add 16 = .ok (.iconst 0, 1) := by decide +kernel
theorem dX1_add_17 : decode cX1_add 17 = .ok (.ireturn, 1) := by decide +kernel
theorem dX1_add_18 : decode cX1_add 18 = .ok (.aload_n 0, 1) := by decide +kernel
theorem dX1_add_19 : decode cX1_add 19 = .ok (.getfield 9, 3) := by decide +kernel
theorem dX1_add_22 : decode cX1_add 22 = .ok (.aload_n 0, 1) := by decide +kernel
theorem dX1_add_23 : decode cX1_add 23 = .ok (.getfield 30, 3) := by decide +kernel
theorem dX1_add_26 : decode cX1_add 26 = .ok (.iload_n 1, 1) := by decide +kernel
theorem dX1_add_27 : decode cX1_add 27 = .ok (.iastore, 1) := by decide +kernel
theorem dX1_add_28 : decode cX1_add 28 = .ok (.aload_n 0, 1) := by decide +kernel
theorem dX1_add_29 : decode cX1_add 29 = .ok (.getfield 15, 3) := by decide +kernel
theorem dX1_add_32 : decode cX1_add 32 = .ok (.aload_n 0, 1) := by decide +kernel
theorem dX1_add_33 : decode cX1_add 33 = .ok (.getfield 30, 3) := by decide +kernel
theorem dX1_add_36 : decode cX1_add 36 = .ok (.aload_n 0, 1) := by decide +kernel
theorem dX1_add_37 : decode cX1_add 37 = .ok (.getfield 34, 3) := by decide +kernel
theorem dX1_add_40 : decode cX1_add 40 = .ok (.iastore, 1) := by decide +kernel
theorem dX1_add_41 : decode cX1_add 41 = .ok (.aload_n 0, 1) := by decide +kernel
theorem dX1_add_42 : decode cX1_add 42 = .ok (.getfield 18, 3) := by decide +kernel
theorem dX1_add_45 : decode cX1_add 45 = .ok (.aload_n 0, 1) := by decide +kernel
theorem dX1_add_46 : decode cX1_add 46 = .ok (.getfield 30, 3) := by decide +kernel
theorem dX1_add_49 : decode cX1_add 49 = .ok (.iload_n 2, 1) := by decide +kernel
theorem dX1_add_50 : decode cX1_add 50 = .ok (.iastore, 1) := by decide +kernel
theorem dX1_add_51 : decode cX1_add 51 = .ok (.aload_n 0, 1) := by decide +kernel
theorem dX1_add_52 : decode cX1_add 52 = .ok (.getfield 21, 3) := by decide +kernel
theorem dX1_add_55 : decode cX1_add 55 = .ok (.aload_n 0, 1) := by decide +kernel
theorem dX1_add_56 : decode cX1_add 56 = .ok (.getfield 30, 3) := by decide +kernel
theorem dX1_add_59 : decode cX1_add 59 = .ok (.iload_n 3, 1) := by decide +kernel
theorem dX1_add_60 : decode cX1_add 60 = .ok (.iastore, 1) := by decide +kernel
theorem dX1_add_61 : decode cX1_add 61 = .ok (.aload_n 0, 1) := by decide +kernel
theorem dX1_add_62 : decode cX1_add 62 = .ok (.getfield 24, 3) := by decide +kernel
theorem dX1_add_65 : decode cX1_add 65 = .ok (.aload_n 0, 1) := by decide +kernel
theorem dX1_add_66 : decode cX1_add 66 = .ok (.getfield 30, 3) := by decide +kernel
theorem dX1_add_69 : decode cX1_add 69 = .ok (.aload_n 0, 1) := by decide +kernel
theorem dX1_add_70 : decode cX1_add 70 = .ok (.iload_n 3, 1) := by decide +kernel
theorem dX1_add_71 : decode cX1_add 71 = .ok (.invokevirtual 49, 3) := by decide +kernel
theorem dX1_add_74 : decode cX1_add 74 = .ok (.ifCond .eq 12, 3) := by decide +kernel
theorem dX1_add_77 : decode cX1_add 77 = .ok (.aload_n 0, 1) := by decide +kernel
theorem dX1_add_78 : decode cX1_add 78 = .ok (.getfield 24, 3) := by decide +kernel
theorem dX1_add_81 : decode cX1_add 81 = .ok (.iload_n 3, 1) := by decide +kernel
theorem dX1_add_82 : decode cX1_add 82 = .ok (.iaload, 1) := by decide +kernel
theorem dX1_add_83 : decode cX1_add 83 = .ok (.goto 7, 3) := by decide +kernel
theorem dX1_add_86 : decode cX1_add 86 = .ok (.aload_n 0, 1) := by decide +kernel
theorem dX1_add_87 : decode cX1_add 87 = .ok (.getfield 30, 3) := by decide +kernel
theorem dX1_add_90 : decode cX1_add 90 = .ok (.iastore, 1) := by decide +kernel
theorem dX1_add_91 : decode cX1_add 91 = .ok (.aload_n 0, 1) := by decide +kernel
theorem dX1_add_92 : decode cX1_add 92 = .ok (.getfield 27, 3) := by decide +kernel
theorem dX1_add_95 : decode cX1_add 95 = .ok (.aload_n 0, 1) := by decide +kernel
theorem dX1_add_96 : decode cX1_add 96 = .ok (.getfield 30, 3) := by decide +kernel
theorem dX1_add_99 : decode cX1_add 99 = .ok (.aload_n 0, 1) := by decide +kernel
theorem dX1_add_100 : decode cX1_add 100 = .ok (.iload_n 3, 1) := by decide +kernel
theorem dX1_add_101 : decode cX1_add 101 = .ok (.invokevirtual 49, 3) := by decide +kernel
theorem dX1_add_104 : decode cX1_add 104 = .ok (.ifCond .eq 14, 3) := by decide +kernel
theorem dX1_add_107 : decode cX1_add 107 = .ok (.aload_n 0, 1) := by decide +kernel
theorem dX1_add_108 : decode cX1_add 108 = .ok (.getfield 27, 3) := by decide +kernel
theorem dX1_add_111 : decode cX1_add 111 = .ok (.iload_n 3, 1) := by decide +kernel
theorem dX1_add_112 : decode cX1_add 112 = .ok (.iaload, 1) := by decide +kernel
theorem dX1_add_113 : decode cX1_add 113 = .ok (.iconst 1, 1) := by decide +kernel
theorem dX1_add_114 : decode cX1_add 114 = .ok (.iadd, 1) := by decide +kernel
theorem dX1_add_115 : decode cX1_add 115 = .ok (.goto 4, 3) := by decide +kernel
theorem dX1_add_118 : decode cX1_add 118 = .ok (.iconst 0, 1) := by decide +kernel
theorem dX1_add_119 : decode cX1_add 119 = .ok (.iastore, 1) := by decide +kernel
theorem dX1_add_120 : decode cX1_add 120 = .ok (.aload_n 0, 1) := by decide +kernel
theorem dX1_add_121 : decode cX1_add 121 = .ok (.dup, 1) := by decide +kernel
theorem dX1_add_122 : decode cX1_add 122 = .ok (.getfield 30, 3) := by decide +kernel
theorem dX1_add_125 : decode cX1_add 125 = .ok (.iconst 1, 1) := by decide +kernel
theorem dX1_add_126 : decode cX1_add 126 = .ok (.iadd, 1) := by decide +kernel
theorem dX1_add_127 : decode cX1_add 127 = .ok (.putfield 30, 3) := by decide +kernel
theorem dX1_add_130 : decode cX1_add 130 = .ok (.aload_n 0, 1) := by decide +kernel
theorem dX1_add_131 : decode cX1_add 131 = .ok (.iconst 0, 1) := by decide +kernel
theorem dX1_add_132 : decode cX1_add 132 = .ok (.invokevirtual 53, 3) := by decide +kernel
theorem dX1_add_135 : decode cX1_add 135 = .ok (.iconst 1, 1) := by decide +kernel
theorem dX1_add_136 : decode cX1_add 136 = .ok (.ireturn, 1) := by decide +kernel
theorem dX1_passHour_0 : decode cX1_passHour 0 = .ok (.aload_n 0, 1) := by decide +kernel
theorem dX1_passHour_1 : decode cX1_passHour 1 = .ok (.getfield 34, 3) := by decide +kernel
theorem dX1_passHour_4 : decode cX1_passHour 4 = .ok (.bipush 99, 2) := by decide +kernel
theorem dX1_passHour_6 : decode cX1_passHour 6 = .ok (.if_icmp .lt 5, 3) := by decide +kernel
theorem dX1_passHour_9 : decode cX1_passHour 9 = .ok (.iconst 0, 1) := by decide +kernel
theorem dX1_passHour_10 : decode cX1_passHour 10 = .ok (.ireturn, 1) := by decide +kernel
theorem dX1_passHour_11 : decode cX1_passHour 11 = .ok (.aload_n 0, 1) := by decide +kernel
theorem dX1_passHour_12 : decode cX1_passHour 12 = .ok (.dup, 1) := by decide +kernel
theorem dX1_passHour_13 : decode cX1_passHour 13 = .ok (.getfield 34, 3) := by decide +kernel
theorem dX1_passHour_16 : decode cX1_passHour 16 = .ok (.iconst 1, 1) := by decide +kernel
theorem dX1_passHour_17 : decode cX1_passHour 17 = .ok (.iadd, 1) := by decide +kernel
theorem dX1_passHour_18 : decode cX1_passHour 18 = .ok (.putfield 34, 3) := by decide +kernel
theorem dX1_passHour_21 : decode cX1_passHour 21 = .ok (.aload_n 0, 1) := by decide +kernel
theorem dX1_passHour_22 : decode cX1_passHour 22 = .ok (.iconst 1, 1) := by decide +kernel
theorem dX1_passHour_23 : decode cX1_passHour 23 = .ok (.invokevirtual 53, 3) := by decide +kernel
theorem dX1_passHour_26 : decode cX1_passHour 26 = .ok (.iconst 1, 1) := by decide +kernel
theorem dX1_passHour_27 : decode cX1_passHour 27 = .ok (.ireturn, 1) := by decide +kernel
theorem dX1_remember_0 : decode cX1_remember 0 = .ok (.aload_n 0, 1) := by decide +kernel
theorem dX1_remember_1 : decode cX1_remember 1 = .ok (.aload_n 0, 1) := by decide +kernel
theorem dX1_remember_2 : decode cX1_remember 2 = .ok (.getfield 40, 3) := by decide +kernel
theorem dX1_remember_5 : decode cX1_remember 5 = .ok (.iconst 1, 1) := by decide +kernel
theorem dX1_remember_6 : decode cX1_remember 6 = .ok (.ishl, 1) := by decide +kernel
theorem dX1_remember_7 : decode cX1_remember 7 = .ok (.iload_n 1, 1) := by decide +kernel
theorem dX1_remember_8 : decode cX1_remember 8 = .ok (.ior, 1) := by decide +kernel
theorem dX1_remember_9 : decode cX1_remember 9 = .ok (.sipush 4095, 3) := by decide +kernel
theorem dX1_remember_12 : decode cX1_remember 12 = .ok (.iand, 1) := by decide +kernel
theorem dX1_remember_13 : decode cX1_remember 13 = .ok (.putfield 40, 3) := by decide +kernel
theorem dX1_remember_16 : decode cX1_remember 16 = .ok (.aload_n 0, 1) := by decide +kernel
theorem dX1_remember_17 : decode cX1_remember 17 = .ok (.bipush 12, 2) := by decide +kernel
theorem dX1_remember_19 : decode cX1_remember 19 = .ok (.aload_n 0, 1) := by decide +kernel
theorem dX1_remember_20 : decode cX1_remember 20 = .ok (.getfield 37, 3) := by decide +kernel
theorem dX1_remember_23 : decode cX1_remember 23 = .ok (.iconst 1, 1) := by decide +kernel
theorem dX1_remember_24 : decode cX1_remember 24 = .ok (.iadd, 1) := by decide +kernel
theorem dX1_remember_25 : decode cX1_remember 25 = .ok (.invokestatic 57, 3) := by decide +kernel
theorem dX1_remember_28 : decode cX1_remember 28 = .ok (.putfield 37, 3) := by decide +kernel
theorem dX1_remember_31 : decode cX1_remember 31 = .ok (.return_, 1) := by decide +kernel
theorem dX1_takeBack_0 : decode cX1_takeBack 0 = .ok (.aload_n 0, 1) := by decide +kernel
theorem dX1_takeBack_1 : decode cX1_takeBack 1 = .ok (.getfield 37, 3) := by decide +kernel
theorem dX1_takeBack_4 : decode cX1_takeBack 4 = .ok (.ifCond .gt 5, 3) := by decide +kernel
theorem dX1_takeBack_7 : decode cX1_takeBack 7 = .ok (.iconst 0, 1) := by decide +kernel
theorem dX1_takeBack_8 : decode cX1_takeBack 8 = .ok (.ireturn, 1) := by decide +kernel
theorem dX1_takeBack_9 : decode cX1_takeBack 9 = .ok (.aload_n 0, 1) := by decide +kernel
theorem dX1_takeBack_10 : decode cX1_takeBack 10 = .ok (.getfield 40, 3) := by decide +kernel
theorem dX1_takeBack_13 : decode cX1_takeBack 13 = .ok (.iconst 1, 1) := by decide +kernel
theorem dX1_takeBack_14 : decode cX1_takeBack 14 = .ok (.iand, 1) := by decide +kernel
theorem dX1_takeBack_15 : decode cX1_takeBack 15 = .ok (.ifCond .eq 16, 3) := by decide +kernel
theorem dX1_takeBack_18 : decode cX1_takeBack 18 = .ok (.aload_n 0, 1) := by decide +kernel
theorem dX1_takeBack_19 : decode cX1_takeBack 19 = .ok (.dup, 1) := by decide +kernel
theorem dX1_takeBack_20 : decode cX1_takeBack 20 = .ok (.getfield 34, 3) := by decide +kernel
theorem dX1_takeBack_23 : decode cX1_takeBack 23 = .ok (.iconst 1, 1) := by decide +kernel
theorem dX1_takeBack_24 : decode cX1_takeBack 24 = .ok (.isub, 1) := by decide +kernel
theorem dX1_takeBack_25 : decode cX1_takeBack 25 = .ok (.putfield 34, 3) := by decide +kernel
theorem dX1_takeBack_28 : decode cX1_takeBack 28 = .ok (.goto 13, 3) := by decide +kernel
theorem dX1_takeBack_31 : decode cX1_takeBack 31 = .ok (.aload_n 0, 1) := by decide +kernel
theorem dX1_takeBack_32 : decode cX1_takeBack 32 = .ok (.dup, 1) := by decide +kernel
theorem dX1_takeBack_33 : decode cX1_takeBack 33 = .ok (.getfield 30, 3) := by decide +kernel
theorem dX1_takeBack_36 : decode cX1_takeBack 36 = .ok (.iconst 1, 1) := by decide +kernel
theorem dX1_takeBack_37 : decode cX1_takeBack 37 = .ok (.isub, 1) := by decide +kernel
theorem dX1_takeBack_38 : decode cX1_takeBack 38 = .ok (.putfield 30, 3) := by decide +kernel
theorem dX1_takeBack_41 : decode cX1_takeBack 41 = .ok (.aload_n 0, 1) := by decide +kernel
theorem dX1_takeBack_42 : decode cX1_takeBack 42 = .ok (.dup, 1) := by decide +kernel
theorem dX1_takeBack_43 : decode cX1_takeBack 43 = .ok (.getfield 40, 3) := by decide +kernel
theorem dX1_takeBack_46 : decode cX1_takeBack 46 = .ok (.iconst 1, 1) := by decide +kernel
theorem dX1_takeBack_47 : decode cX1_takeBack 47 = .ok (.ishr, 1) := by decide +kernel
theorem dX1_takeBack_48 : decode cX1_takeBack 48 = .ok (.putfield 40, 3) := by decide +kernel
theorem dX1_takeBack_51 : decode cX1_takeBack 51 = .ok (.aload_n 0, 1) := by decide +kernel
theorem dX1_takeBack_52 : decode cX1_takeBack 52 = .ok (.dup, 1) := by decide +kernel
theorem dX1_takeBack_53 : decode cX1_takeBack 53 = .ok (.getfield 37, 3) := by decide +kernel
theorem dX1_takeBack_56 : decode cX1_takeBack 56 = .ok (.iconst 1, 1) := by decide +kernel
theorem dX1_takeBack_57 : decode cX1_takeBack 57 = .ok (.isub, 1) := by decide +kernel
theorem dX1_takeBack_58 : decode cX1_takeBack 58 = .ok (.putfield 37, 3) := by decide +kernel
theorem dX1_takeBack_61 : decode cX1_takeBack 61 = .ok (.iconst 1, 1) := by decide +kernel
theorem dX1_takeBack_62 : decode cX1_takeBack 62 = .ok (.ireturn, 1) := by decide +kernel
theorem dX1_timesIn_0 : decode cX1_timesIn 0 = .ok (.iconst 0, 1) := by decide +kernel
theorem dX1_timesIn_1 : decode cX1_timesIn 1 = .ok (.istore_n 2, 1) := by decide +kernel
theorem dX1_timesIn_2 : decode cX1_timesIn 2 = .ok (.iconst 0, 1) := by decide +kernel
theorem dX1_timesIn_3 : decode cX1_timesIn 3 = .ok (.istore_n 3, 1) := by decide +kernel
theorem dX1_timesIn_4 : decode cX1_timesIn 4 = .ok (.iload_n 3, 1) := by decide +kernel
theorem dX1_timesIn_5 : decode cX1_timesIn 5 = .ok (.aload_n 0, 1) := by decide +kernel
theorem dX1_timesIn_6 : decode cX1_timesIn 6 = .ok (.getfield 30, 3) := by decide +kernel
theorem dX1_timesIn_9 : decode cX1_timesIn 9 = .ok (.if_icmp .ge 28, 3) := by decide +kernel
theorem dX1_timesIn_12 : decode cX1_timesIn 12 = .ok (.iload_n 3, 1) := by decide +kernel
theorem dX1_timesIn_13 : decode cX1_timesIn 13 = .ok (.bipush 30, 2) := by decide +kernel
theorem dX1_timesIn_15 : decode cX1_timesIn 15 = .ok (.if_icmp .ge 22, 3) := by decide +kernel
theorem dX1_timesIn_18 : decode cX1_timesIn 18 = .ok (.aload_n 0, 1) := by decide +kernel
theorem dX1_timesIn_19 : decode cX1_timesIn 19 = .ok (.getfield 9, 3) := by decide +kernel
theorem dX1_timesIn_22 : decode cX1_timesIn 22 = .ok (.iload_n 3, 1) := by decide +kernel
theorem dX1_timesIn_23 : decode cX1_timesIn 23 = .ok (.iaload, 1) := by decide +kernel
theorem dX1_timesIn_24 : decode cX1_timesIn 24 = .ok (.iload_n 1, 1) := by decide +kernel
theorem dX1_timesIn_25 : decode cX1_timesIn 25 = .ok (.if_icmp .ne 6, 3) := by decide +kernel
theorem dX1_timesIn_28 : decode cX1_timesIn 28 = .ok (.iinc 2 1, 3) := by decide +kernel
theorem dX1_timesIn_31 : decode cX1_timesIn 31 = .ok (.iinc 3 1, 3) := by decide +kernel
theorem dX1_timesIn_34 : decode cX1_timesIn 34 = .ok (.goto (-30), 3) := by decide +kernel
theorem dX1_timesIn_37 : decode cX1_timesIn 37 = .ok (.iload_n 2, 1) := by decide +kernel
theorem dX1_timesIn_38 : decode cX1_timesIn 38 = .ok (.ireturn, 1) := by decide +kernel
theorem dX1_timesBy_0 : decode cX1_timesBy 0 = .ok (.iconst 0, 1) := by decide +kernel
theorem dX1_timesBy_1 : decode cX1_timesBy 1 = .ok (.istore_n 2, 1) := by decide +kernel
theorem dX1_timesBy_2 : decode cX1_timesBy 2 = .ok (.iconst 0, 1) := by decide +kernel
theorem dX1_timesBy_3 : decode cX1_timesBy 3 = .ok (.istore_n 3, 1) := by decide +kernel
theorem dX1_timesBy_4 : decode cX1_timesBy 4 = .ok (.iload_n 3, 1) := by decide +kernel
theorem dX1_timesBy_5 : decode cX1_timesBy 5 = .ok (.aload_n 0, 1) := by decide +kernel
theorem dX1_timesBy_6 : decode cX1_timesBy 6 = .ok (.getfield 30, 3) := by decide +kernel
theorem dX1_timesBy_9 : decode cX1_timesBy 9 = .ok (.if_icmp .ge 28, 3) := by decide +kernel
theorem dX1_timesBy_12 : decode cX1_timesBy 12 = .ok (.iload_n 3, 1) := by decide +kernel
theorem dX1_timesBy_13 : decode cX1_timesBy 13 = .ok (.bipush 30, 2) := by decide +kernel
theorem dX1_timesBy_15 : decode cX1_timesBy 15 = .ok (.if_icmp .ge 22, 3) := by decide +kernel
theorem dX1_timesBy_18 : decode cX1_timesBy 18 = .ok (.aload_n 0, 1) := by decide +kernel
theorem dX1_timesBy_19 : decode cX1_timesBy 19 = .ok (.getfield 18, 3) := by decide +kernel
theorem dX1_timesBy_22 : decode cX1_timesBy 22 = .ok (.iload_n 3, 1) := by decide +kernel
theorem dX1_timesBy_23 : decode cX1_timesBy 23 = .ok (.iaload, 1) := by decide +kernel
theorem dX1_timesBy_24 : decode cX1_timesBy 24 = .ok (.iload_n 1, 1) := by decide +kernel
theorem dX1_timesBy_25 : decode cX1_timesBy 25 = .ok (.if_icmp .ne 6, 3) := by decide +kernel
theorem dX1_timesBy_28 : decode cX1_timesBy 28 = .ok (.iinc 2 1, 3) := by decide +kernel
theorem dX1_timesBy_31 : decode cX1_timesBy 31 = .ok (.iinc 3 1, 3) := by decide +kernel
theorem dX1_timesBy_34 : decode cX1_timesBy 34 = .ok (.goto (-30), 3) := by decide +kernel
theorem dX1_timesBy_37 : decode cX1_timesBy 37 = .ok (.iload_n 2, 1) := by decide +kernel
theorem dX1_timesBy_38 : decode cX1_timesBy 38 = .ok (.ireturn, 1) := by decide +kernel
theorem dX1_isOpen_0 : decode cX1_isOpen 0 = .ok (.aload_n 0, 1) := by decide +kernel
theorem dX1_isOpen_1 : decode cX1_isOpen 1 = .ok (.iload_n 1, 1) := by decide +kernel
theorem dX1_isOpen_2 : decode cX1_isOpen 2 = .ok (.invokevirtual 63, 3) := by decide +kernel
theorem dX1_isOpen_5 : decode cX1_isOpen 5 = .ok (.bipush (-9), 2) := by decide +kernel
theorem dX1_isOpen_7 : decode cX1_isOpen 7 = .ok (.if_icmp .ne 7, 3) := by decide +kernel
theorem dX1_isOpen_10 : decode cX1_isOpen 10 = .ok (.iconst 1, 1) := by decide +kernel
theorem dX1_isOpen_11 : decode cX1_isOpen 11 = .ok (.goto 4, 3) := by decide +kernel
theorem dX1_isOpen_14 : decode cX1_isOpen 14 = .ok (.iconst 0, 1) := by decide +kernel
theorem dX1_isOpen_15 : decode cX1_isOpen 15 = .ok (.ireturn, 1) := by decide +kernel
theorem dX1_firstAnswerTo_0 : decode cX1_firstAnswerTo 0 = .ok (.iconst 0, 1) := by decide +kernel
theorem dX1_firstAnswerTo_1 : decode cX1_firstAnswerTo 1 = .ok (.istore_n 2, 1) := by decide +kernel
theorem dX1_firstAnswerTo_2 : decode cX1_firstAnswerTo 2 = .ok (.iload_n 2, 1) := by decide +kernel
theorem dX1_firstAnswerTo_3 : decode cX1_firstAnswerTo 3 = .ok (.aload_n 0, 1) := by decide +kernel
theorem dX1_firstAnswerTo_4 : decode cX1_firstAnswerTo 4 = .ok (.getfield 30, 3) := by decide +kernel
theorem dX1_firstAnswerTo_7 : decode cX1_firstAnswerTo 7 = .ok (.if_icmp .ge 27, 3) := by decide +kernel
theorem dX1_firstAnswerTo_10 : decode cX1_firstAnswerTo 10 = .ok (.iload_n 2, 1) := by decide +kernel
theorem dX1_firstAnswerTo_11 : decode cX1_firstAnswerTo 11 = .ok (.bipush 30, 2) := by decide +kernel
theorem dX1_firstAnswerTo_13 : decode cX1_firstAnswerTo 13 = .ok (.if_icmp .ge 21, 3) := by decide +kernel
theorem dX1_firstAnswerTo_16 : decode cX1_firstAnswerTo 16 = .ok (.aload_n 0, 1) := by decide +kernel
theorem dX1_firstAnswerTo_17 : decode cX1_firstAnswerTo 17 = .ok (.getfield 21, 3) := by decide +kernel
theorem dX1_firstAnswerTo_20 : decode cX1_firstAnswerTo 20 = .ok (.iload_n 2, 1) := by decide +kernel
theorem dX1_firstAnswerTo_21 : decode cX1_firstAnswerTo 21 = .ok (.iaload, 1) := by decide +kernel
theorem dX1_firstAnswerTo_22 : decode cX1_firstAnswerTo 22 = .ok (.iload_n 1, 1) := by decide +kernel
theorem dX1_firstAnswerTo_23 : decode cX1_firstAnswerTo 23 = .ok (.if_icmp .ne 5, 3) := by decide +kernel
theorem dX1_firstAnswerTo_26 : decode cX1_firstAnswerTo 26 = .ok (.iload_n 2, 1) := by decide +kernel
theorem dX1_firstAnswerTo_27 : decode cX1_firstAnswerTo 27 = .ok (.ireturn, 1) := by decide +kernel
theorem dX1_firstAnswerTo_28 : decode cX1_firstAnswerTo 28 = .ok (.iinc 2 1, 3) := by decide +kernel
theorem dX1_firstAnswerTo_31 : decode cX1_firstAnswerTo 31 = .ok (.goto (-29), 3) := by decide +kernel
theorem dX1_firstAnswerTo_34 : decode cX1_firstAnswerTo 34 = .ok (.bipush (-9), 2) := by decide +kernel
theorem dX1_firstAnswerTo_36 : decode cX1_firstAnswerTo 36 = .ok (.ireturn, 1) := by decide +kernel
theorem dX1_isThere_0 : decode cX1_isThere 0 = .ok (.aload_n 0, 1) := by decide +kernel
theorem dX1_isThere_1 : decode cX1_isThere 1 = .ok (.iload_n 1, 1) := by decide +kernel
theorem dX1_isThere_2 : decode cX1_isThere 2 = .ok (.invokevirtual 49, 3) := by decide +kernel
theorem dX1_isThere_5 : decode cX1_isThere 5 = .ok (.ifCond .eq 24, 3) := by decide +kernel
theorem dX1_isThere_8 : decode cX1_isThere 8 = .ok (.aload_n 0, 1) := by decide +kernel
theorem dX1_isThere_9 : decode cX1_isThere 9 = .ok (.getfield 34, 3) := by decide +kernel
theorem dX1_isThere_12 : decode cX1_isThere 12 = .ok (.iload_n 2, 1) := by decide +kernel
theorem dX1_isThere_13 : decode cX1_isThere 13 = .ok (.iadd, 1) := by decide +kernel
theorem dX1_isThere_14 : decode cX1_isThere 14 = .ok (.aload_n 0, 1) := by decide +kernel
theorem dX1_isThere_15 : decode cX1_isThere 15 = .ok (.getfield 15, 3) := by decide +kernel
theorem dX1_isThere_18 : decode cX1_isThere 18 = .ok (.iload_n 1, 1) := by decide +kernel
theorem dX1_isThere_19 : decode cX1_isThere 19 = .ok (.iaload, 1) := by decide +kernel
theorem dX1_isThere_20 : decode cX1_isThere 20 = .ok (.isub, 1) := by decide +kernel
theorem dX1_isThere_21 : decode cX1_isThere 21 = .ok (.iload_n 3, 1) := by decide +kernel
theorem dX1_isThere_22 : decode cX1_isThere 22 = .ok (.if_icmp .gt 7, 3) := by decide +kernel
theorem dX1_isThere_25 : decode cX1_isThere 25 = .ok (.iconst 1, 1) := by decide +kernel
theorem dX1_isThere_26 : decode cX1_isThere 26 = .ok (.goto 4, 3) := by decide +kernel
theorem dX1_isThere_29 : decode cX1_isThere 29 = .ok (.iconst 0, 1) := by decide +kernel
theorem dX1_isThere_30 : decode cX1_isThere 30 = .ok (.ireturn, 1) := by decide +kernel
theorem dX1_there_0 : decode cX1_there 0 = .ok (.iconst 0, 1) := by decide +kernel
theorem dX1_there_1 : decode cX1_there 1 = .ok (.istore_n 3, 1) := by decide +kernel
theorem dX1_there_2 : decode cX1_there 2 = .ok (.iconst 0, 1) := by decide +kernel
theorem dX1_there_3 : decode cX1_there 3 = .ok (.istore 4, 2) := by decide +kernel
theorem dX1_there_5 : decode cX1_there 5 = .ok (.iload 4, 2) := by decide +kernel
theorem dX1_there_7 : decode cX1_there 7 = .ok (.aload_n 0, 1) := by decide +kernel
theorem dX1_there_8 : decode cX1_there 8 = .ok (.getfield 30, 3) := by decide +kernel
theorem dX1_there_11 : decode cX1_there 11 = .ok (.if_icmp .ge 39, 3) := by decide +kernel
theorem dX1_there_14 : decode cX1_there 14 = .ok (.iload 4, 2) := by decide +kernel
theorem dX1_there_16 : decode cX1_there 16 = .ok (.bipush 30, 2) := by decide +kernel
theorem dX1_there_18 : decode cX1_there 18 = .ok (.if_icmp .ge 32, 3) := by decide +kernel
theorem dX1_there_21 : decode cX1_there 21 = .ok (.aload_n 0, 1) := by decide +kernel
theorem dX1_there_22 : decode cX1_there 22 = .ok (.iload 4, 2) := by decide +kernel
theorem dX1_there_24 : decode cX1_there 24 = .ok (.iload_n 1, 1) := by decide +kernel
theorem dX1_there_25 : decode cX1_there 25 = .ok (.iload_n 2, 1) := by decide +kernel
theorem dX1_there_26 : decode cX1_there 26 = .ok (.invokevirtual 67, 3) := by decide +kernel
theorem dX1_there_29 : decode cX1_there 29 = .ok (.ifCond .eq 15, 3) := by decide +kernel
theorem dX1_there_32 : decode cX1_there 32 = .ok (.iload_n 3, 1) := by decide +kernel
theorem dX1_there_33 : decode cX1_there 33 = .ok (.iconst 1, 1) := by decide +kernel
theorem dX1_there_34 : decode cX1_there 34 = .ok (.aload_n 0, 1) := by decide +kernel
theorem dX1_there_35 : decode cX1_there 35 = .ok (.getfield 9, 3) := by decide +kernel
theorem dX1_there_38 : decode cX1_there 38 = .ok (.iload 4, 2) := by decide +kernel
theorem dX1_there_40 : decode cX1_there 40 = .ok (.iaload, 1) := by decide +kernel
theorem dX1_there_41 : decode cX1_there 41 = .ok (.ishl, 1) := by decide +kernel
theorem dX1_there_42 : decode cX1_there 42 = .ok (.ior, 1) := by decide +kernel
theorem dX1_there_43 : decode cX1_there 43 = .ok (.istore_n 3, 1) := by decide +kernel
theorem dX1_there_44 : decode cX1_there 44 = .ok (.iinc 4 1, 3) := by decide +kernel
theorem dX1_there_47 : decode cX1_there 47 = .ok (.goto (-42), 3) := by decide +kernel
theorem dX1_there_50 : decode cX1_there 50 = .ok (.iload_n 3, 1) := by decide +kernel
theorem dX1_there_51 : decode cX1_there 51 = .ok (.ireturn, 1) := by decide +kernel
theorem dX1_latestOf_0 : decode cX1_latestOf 0 = .ok (.aload_n 0, 1) := by decide +kernel
theorem dX1_latestOf_1 : decode cX1_latestOf 1 = .ok (.getfield 30, 3) := by decide +kernel
theorem dX1_latestOf_4 : decode cX1_latestOf 4 = .ok (.bipush 30, 2) := by decide +kernel
theorem dX1_latestOf_6 : decode cX1_latestOf 6 = .ok (.invokestatic 57, 3) := by decide +kernel
theorem dX1_latestOf_9 : decode cX1_latestOf 9 = .ok (.iconst 1, 1) := by decide +kernel
theorem dX1_latestOf_10 : decode cX1_latestOf 10 = .ok (.isub, 1) := by decide +kernel
theorem dX1_latestOf_11 : decode cX1_latestOf 11 = .ok (.istore_n 3, 1) := by decide +kernel
theorem dX1_latestOf_12 : decode cX1_latestOf 12 = .ok (.iload_n 3, 1) := by decide +kernel
theorem dX1_latestOf_13 : decode cX1_latestOf 13 = .ok (.ifCond .lt 34, 3) := by decide +kernel
theorem dX1_latestOf_16 : decode cX1_latestOf 16 = .ok (.iload_n 1, 1) := by decide +kernel
theorem dX1_latestOf_17 : decode cX1_latestOf 17 = .ok (.iconst 1, 1) := by decide +kernel
theorem dX1_latestOf_18 : decode cX1_latestOf 18 = .ok (.aload_n 0, 1) := by decide +kernel
theorem dX1_latestOf_19 : decode cX1_latestOf 19 = .ok (.getfield 9, 3) := by decide +kernel
theorem dX1_latestOf_22 : decode cX1_latestOf 22 = .ok (.iload_n 3, 1) := by decide +kernel
theorem dX1_latestOf_23 : decode cX1_latestOf 23 = .ok (.iaload, 1) := by decide +kernel
theorem dX1_latestOf_24 : decode cX1_latestOf 24 = .ok (.ishl, 1) := by decide +kernel
theorem dX1_latestOf_25 : decode cX1_latestOf 25 = .ok (.iand, 1) := by decide +kernel
theorem dX1_latestOf_26 : decode cX1_latestOf 26 = .ok (.ifCond .eq 15, 3) := by decide +kernel
theorem dX1_latestOf_29 : decode cX1_latestOf 29 = .ok (.aload_n 0, 1) := by decide +kernel
theorem dX1_latestOf_30 : decode cX1_latestOf 30 = .ok (.iload_n 3, 1) := by decide +kernel
theorem dX1_latestOf_31 : decode cX1_latestOf 31 = .ok (.iconst 0, 1) := by decide +kernel
theorem dX1_latestOf_32 : decode cX1_latestOf 32 = .ok (.iload_n 2, 1) := by decide +kernel
theorem dX1_latestOf_33 : decode cX1_latestOf 33 = .ok (.invokevirtual 67, 3) := by decide +kernel
theorem dX1_latestOf_36 : decode cX1_latestOf 36 = .ok (.ifCond .eq 5, 3) := by decide +kernel
theorem dX1_latestOf_39 : decode cX1_latestOf 39 = .ok (.iload_n 3, 1) := by decide +kernel
theorem dX1_latestOf_40 : decode cX1_latestOf 40 = .ok (.ireturn, 1) := by decide +kernel
theorem dX1_latestOf_41 : decode cX1_latestOf 41 = .ok (.iinc 3 (-1), 3) := by decide +kernel
theorem dX1_latestOf_44 : decode cX1_latestOf 44 = .ok (.goto (-32), 3) := by decide +kernel
theorem dX1_latestOf_47 : decode cX1_latestOf 47 = .ok (.bipush (-9), 2) := by decide +kernel
theorem dX1_latestOf_49 : decode cX1_latestOf 49 = .ok (.ireturn, 1) := by decide +kernel
theorem dX1_openOnes_0 : decode cX1_openOnes 0 = .ok (.iconst 0, 1) := by decide +kernel
theorem dX1_openOnes_1 : decode cX1_openOnes 1 = .ok (.istore_n 1, 1) := by decide +kernel
theorem dX1_openOnes_2 : decode cX1_openOnes 2 = .ok (.iconst 0, 1) := by decide +kernel
theorem dX1_openOnes_3 : decode cX1_openOnes 3 = .ok (.istore_n 2, 1) := by decide +kernel
theorem dX1_openOnes_4 : decode cX1_openOnes 4 = .ok (.iload_n 2, 1) := by decide +kernel
theorem dX1_openOnes_5 : decode cX1_openOnes 5 = .ok (.aload_n 0, 1) := by decide +kernel
theorem dX1_openOnes_6 : decode cX1_openOnes 6 = .ok (.getfield 30, 3) := by decide +kernel
theorem dX1_openOnes_9 : decode cX1_openOnes 9 = .ok (.if_icmp .ge 26, 3) := by decide +kernel
theorem dX1_openOnes_12 : decode cX1_openOnes 12 = .ok (.iload_n 2, 1) := by decide +kernel
theorem dX1_openOnes_13 : decode cX1_openOnes 13 = .ok (.bipush 30, 2) := by decide +kernel
theorem dX1_openOnes_15 : decode cX1_openOnes 15 = .ok (.if_icmp .ge 20, 3) := by decide +kernel
theorem dX1_openOnes_18 : decode cX1_openOnes 18 = .ok (.aload_n 0, 1) := by decide +kernel
theorem dX1_openOnes_19 : decode cX1_openOnes 19 = .ok (.iload_n 2, 1) := by decide +kernel
theorem dX1_openOnes_20 : decode cX1_openOnes 20 = .ok (.invokevirtual 71, 3) := by decide +kernel
theorem dX1_openOnes_23 : decode cX1_openOnes 23 = .ok (.ifCond .eq 6, 3) := by decide +kernel
theorem dX1_openOnes_26 : decode cX1_openOnes 26 = .ok (.iinc 1 1, 3) := by decide +kernel
theorem dX1_openOnes_29 : decode cX1_openOnes 29 = .ok (.iinc 2 1, 3) := by decide +kernel
theorem dX1_openOnes_32 : decode cX1_openOnes 32 = .ok (.goto (-28), 3) := by decide +kernel
theorem dX1_openOnes_35 : decode cX1_openOnes 35 = .ok (.iload_n 1, 1) := by decide +kernel
theorem dX1_openOnes_36 : decode cX1_openOnes 36 = .ok (.ireturn, 1) := by decide +kernel
theorem dX1_lastOpen_0 : decode cX1_lastOpen 0 = .ok (.aload_n 0, 1) := by decide +kernel
theorem dX1_lastOpen_1 : decode cX1_lastOpen 1 = .ok (.getfield 30, 3) := by decide +kernel
theorem dX1_lastOpen_4 : decode cX1_lastOpen 4 = .ok (.bipush 30, 2) := by decide +kernel
theorem dX1_lastOpen_6 : decode cX1_lastOpen 6 = .ok (.invokestatic 57, 3) := by decide +kernel
theorem dX1_lastOpen_9 : decode cX1_lastOpen 9 = .ok (.iconst 1, 1) := by decide +kernel
theorem dX1_lastOpen_10 : decode cX1_lastOpen 10 = .ok (.isub, 1) := by decide +kernel
theorem dX1_lastOpen_11 : decode cX1_lastOpen 11 = .ok (.istore_n 1, 1) := by decide +kernel
theorem dX1_lastOpen_12 : decode cX1_lastOpen 12 = .ok (.iload_n 1, 1) := by decide +kernel
theorem dX1_lastOpen_13 : decode cX1_lastOpen 13 = .ok (.ifCond .lt 19, 3) := by decide +kernel
theorem dX1_lastOpen_16 : decode cX1_lastOpen 16 = .ok (.aload_n 0, 1) := by decide +kernel
theorem dX1_lastOpen_17 : decode cX1_lastOpen 17 = .ok (.iload_n 1, 1) := by decide +kernel
theorem dX1_lastOpen_18 : decode cX1_lastOpen 18 = .ok (.invokevirtual 71, 3) := by decide +kernel
theorem dX1_lastOpen_21 : decode cX1_lastOpen 21 = .ok (.ifCond .eq 5, 3) := by decide +kernel
theorem dX1_lastOpen_24 : decode cX1_lastOpen 24 = .ok (.iload_n 1, 1) := by decide +kernel
theorem dX1_lastOpen_25 : decode cX1_lastOpen 25 = .ok (.ireturn, 1) := by decide +kernel
theorem dX1_lastOpen_26 : decode cX1_lastOpen 26 = .ok (.iinc 1 (-1), 3) := by decide +kernel
theorem dX1_lastOpen_29 : decode cX1_lastOpen 29 = .ok (.goto (-17), 3) := by decide +kernel
theorem dX1_lastOpen_32 : decode cX1_lastOpen 32 = .ok (.bipush (-9), 2) := by decide +kernel
theorem dX1_lastOpen_34 : decode cX1_lastOpen 34 = .ok (.ireturn, 1) := by decide +kernel
theorem dX1_farthest_0 : decode cX1_farthest 0 = .ok (.bipush (-9), 2) := by decide +kernel
theorem dX1_farthest_2 : decode cX1_farthest 2 = .ok (.istore_n 1, 1) := by decide +kernel
theorem dX1_farthest_3 : decode cX1_farthest 3 = .ok (.iconst 0, 1) := by decide +kernel
theorem dX1_farthest_4 : decode cX1_farthest 4 = .ok (.istore_n 2, 1) := by decide +kernel
theorem dX1_farthest_5 : decode cX1_farthest 5 = .ok (.iload_n 2, 1) := by decide +kernel
theorem dX1_farthest_6 : decode cX1_farthest 6 = .ok (.aload_n 0, 1) := by decide +kernel
theorem dX1_farthest_7 : decode cX1_farthest 7 = .ok (.getfield 30, 3) := by decide +kernel
theorem dX1_farthest_10 : decode cX1_farthest 10 = .ok (.if_icmp .ge 40, 3) := by decide +kernel
theorem dX1_farthest_13 : decode cX1_farthest 13 = .ok (.iload_n 2, 1) := by decide +kernel
theorem dX1_farthest_14 : decode cX1_farthest 14 = .ok (.bipush 30, 2) := by decide +kernel
theorem dX1_farthest_16 : decode cX1_farthest 16 = .ok (.if_icmp .ge 34, 3) := by decide +kernel
theorem dX1_farthest_19 : decode cX1_farthest 19 = .ok (.aload_n 0, 1) := by decide +kernel
theorem dX1_farthest_20 : decode cX1_farthest 20 = .ok (.iload_n 1, 1) := by decide +kernel
theorem dX1_farthest_21 : decode cX1_farthest 21 = .ok (.invokevirtual 49, 3) := by decide +kernel
theorem dX1_farthest_24 : decode cX1_farthest 24 = .ok (.ifCond .eq 18, 3) := by decide +kernel
theorem dX1_farthest_27 : decode cX1_farthest 27 = .ok (.aload_n 0, 1) := by decide +kernel
theorem dX1_farthest_28 : decode cX1_farthest 28 = .ok (.getfield 27, 3) := by decide +kernel
theorem dX1_farthest_31 : decode cX1_farthest 31 = .ok (.iload_n 2, 1) := by decide +kernel
theorem dX1_farthest_32 : decode cX1_farthest 32 = .ok (.iaload, 1) := by decide +kernel
theorem dX1_farthest_33 : decode cX1_farthest 33 = .ok (.aload_n 0, 1) := by decide +kernel
theorem dX1_farthest_34 : decode cX1_farthest 34 = .ok (.getfield 27, 3) := by decide +kernel
theorem dX1_farthest_37 : decode cX1_farthest 37 = .ok (.iload_n 1, 1) := by decide +kernel
theorem dX1_farthest_38 : decode cX1_farthest 38 = .ok (.iaload, 1) := by decide +kernel
theorem dX1_farthest_39 : decode cX1_farthest 39 = .ok (.if_icmp .le 5, 3) := by decide +kernel
theorem dX1_farthest_42 : decode cX1_farthest 42 = .ok (.iload_n 2, 1) := by decide +kernel
theorem dX1_farthest_43 : decode cX1_farthest 43 = .ok (.istore_n 1, 1) := by decide +kernel
theorem dX1_farthest_44 : decode cX1_farthest 44 = .ok (.iinc 2 1, 3) := by decide +kernel
theorem dX1_farthest_47 : decode cX1_farthest 47 = .ok (.goto (-42), 3) := by decide +kernel
theorem dX1_farthest_50 : decode cX1_farthest 50 = .ok (.iload_n 1, 1) := by decide +kernel
theorem dX1_farthest_51 : decode cX1_farthest 51 = .ok (.ireturn, 1) := by decide +kernel
theorem dX1_firstAnswerers_0 : decode cX1_firstAnswerers 0 = .ok (.iconst 0, 1) := by decide +kernel
theorem dX1_firstAnswerers_1 : decode cX1_firstAnswerers 1 = .ok (.istore_n 1, 1) := by decide +kernel
theorem dX1_firstAnswerers_2 : decode cX1_firstAnswerers 2 = .ok (.iconst 0, 1) := by decide +kernel
theorem dX1_firstAnswerers_3 : decode cX1_firstAnswerers 3 = .ok (.istore_n 2, 1) := by decide +kernel
theorem dX1_firstAnswerers_4 : decode cX1_firstAnswerers 4 = .ok (.iload_n 2, 1) := by decide +kernel
theorem dX1_firstAnswerers_5 : decode cX1_firstAnswerers 5 = .ok (.aload_n 0, 1) := by decide +kernel
theorem dX1_firstAnswerers_6 : decode cX1_firstAnswerers 6 = .ok (.getfield 30, 3) := by decide +kernel
theorem dX1_firstAnswerers_9 : decode cX1_firstAnswerers 9 = .ok (.if_icmp .ge 55, 3) := by decide +kernel
theorem dX1_firstAnswerers_12 : decode cX1_firstAnswerers 12 = .ok (.iload_n 2, 1) := by decide +kernel
theorem dX1_firstAnswerers_13 : decode cX1_firstAnswerers 13 = .ok (.bipush 30, 2) := by decide +kernel
theorem dX1_firstAnswerers_15 : decode cX1_firstAnswerers 15 = .ok (.if_icmp .ge 49, 3) := by decide +kernel
theorem dX1_firstAnswerers_18 : decode cX1_firstAnswerers 18 = .ok (.aload_n 0, 1) := by decide +kernel
theorem dX1_firstAnswerers_19 : decode cX1_firstAnswerers 19 = .ok (.getfield 24, 3) := by decide +kernel
theorem dX1_firstAnswerers_22 : decode cX1_firstAnswerers 22 = .ok (.iload_n 2, 1) := by decide +kernel
theorem dX1_firstAnswerers_23 : decode cX1_firstAnswerers 23 = .ok (.iaload, 1) := by decide +kernel
theorem dX1_firstAnswerers_24 : decode cX1_firstAnswerers 24 = .ok (.iload_n 2, 1) := by decide +kernel
theorem dX1_firstAnswerers_25 : decode cX1_firstAnswerers 25 = .ok (.if_icmp .ne 11, 3) := by decide +kernel
theorem dX1_firstAnswerers_28 : decode cX1_firstAnswerers 28 = .ok (.aload_n 0, 1) := by decide +kernel
theorem dX1_firstAnswerers_29 : decode cX1_firstAnswerers 29 = .ok (.iload_n 2, 1) := by decide +kernel
theorem dX1_firstAnswerers_30 : decode cX1_firstAnswerers 30 = .ok (.invokevirtual 63, 3) := by decide +kernel
theorem dX1_firstAnswerers_33 : decode cX1_firstAnswerers 33 = .ok (.goto 5, 3) := by decide +kernel
theorem dX1_firstAnswerers_36 : decode cX1_firstAnswerers 36 = .ok (.bipush (-9), 2) := by decide +kernel
theorem dX1_firstAnswerers_38 : decode cX1_firstAnswerers 38 = .ok (.istore_n 3, 1) := by decide +kernel
theorem dX1_firstAnswerers_39 : decode cX1_firstAnswerers 39 = .ok (.aload_n 0, 1) := by decide +kernel
theorem dX1_firstAnswerers_40 : decode cX1_firstAnswerers 40 = .ok (.iload_n 3, 1) := by decide +kernel
theorem dX1_firstAnswerers_41 : decode cX1_firstAnswerers 41 = .ok (.invokevirtual 49, 3) := by decide +kernel
theorem dX1_firstAnswerers_44 : decode cX1_firstAnswerers 44 = .ok (.ifCond .eq 14, 3) := by decide +kernel
theorem dX1_firstAnswerers_47 : decode cX1_firstAnswerers 47 = .ok (.iload_n 1, 1) := by decide +kernel
theorem dX1_firstAnswerers_48 : decode cX1_firstAnswerers 48 = .ok (.iconst 1, 1) := by decide +kernel
theorem dX1_firstAnswerers_49 : decode cX1_firstAnswerers 49 = .ok (.aload_n 0, 1) := by decide +kernel
theorem dX1_firstAnswerers_50 : decode cX1_firstAnswerers 50 = .ok (.getfield 18, 3) := by decide +kernel
theorem dX1_firstAnswerers_53 : decode cX1_firstAnswerers 53 = .ok (.iload_n 3, 1) := by decide +kernel
theorem dX1_firstAnswerers_54 : decode cX1_firstAnswerers 54 = .ok (.iaload, 1) := by decide +kernel
theorem dX1_firstAnswerers_55 : decode cX1_firstAnswerers 55 = .ok (.ishl, 1) := by decide +kernel
theorem dX1_firstAnswerers_56 : decode cX1_firstAnswerers 56 = .ok (.ior, 1) := by decide +kernel
theorem dX1_firstAnswerers_57 : decode cX1_firstAnswerers 57 = .ok (.istore_n 1, 1) := by decide +kernel
theorem dX1_firstAnswerers_58 : decode cX1_firstAnswerers 58 = .ok (.iinc 2 1, 3) := by decide +kernel
theorem dX1_firstAnswerers_61 : decode cX1_firstAnswerers 61 = .ok (.goto (-57), 3) := by decide +kernel
theorem dX1_firstAnswerers_64 : decode cX1_firstAnswerers 64 = .ok (.iload_n 1, 1) := by decide +kernel
theorem dX1_firstAnswerers_65 : decode cX1_firstAnswerers 65 = .ok (.ireturn, 1) := by decide +kernel
theorem dX1_aheadOf_0 : decode cX1_aheadOf 0 = .ok (.iconst 0, 1) := by decide +kernel
theorem dX1_aheadOf_1 : decode cX1_aheadOf 1 = .ok (.istore_n 2, 1) := by decide +kernel
theorem dX1_aheadOf_2 : decode cX1_aheadOf 2 = .ok (.iconst 0, 1) := by decide +kernel
theorem dX1_aheadOf_3 : decode cX1_aheadOf 3 = .ok (.istore_n 3, 1) := by decide +kernel
theorem dX1_aheadOf_4 : decode cX1_aheadOf 4 = .ok (.iload_n 3, 1) := by decide +kernel
theorem dX1_aheadOf_5 : decode cX1_aheadOf 5 = .ok (.aload_n 0, 1) := by decide +kernel
theorem dX1_aheadOf_6 : decode cX1_aheadOf 6 = .ok (.getfield 30, 3) := by decide +kernel
theorem dX1_aheadOf_9 : decode cX1_aheadOf 9 = .ok (.if_icmp .ge 38, 3) := by decide +kernel
theorem dX1_aheadOf_12 : decode cX1_aheadOf 12 = .ok (.iload_n 3, 1) := by decide +kernel
theorem dX1_aheadOf_13 : decode cX1_aheadOf 13 = .ok (.bipush 30, 2) := by decide +kernel
theorem dX1_aheadOf_15 : decode cX1_aheadOf 15 = .ok (.if_icmp .ge 32, 3) := by decide +kernel
theorem dX1_aheadOf_18 : decode cX1_aheadOf 18 = .ok (.aload_n 0, 1) := by decide +kernel
theorem dX1_aheadOf_19 : decode cX1_aheadOf 19 = .ok (.getfield 9, 3) := by decide +kernel
theorem dX1_aheadOf_22 : decode cX1_aheadOf 22 = .ok (.iload_n 3, 1) := by decide +kernel
theorem dX1_aheadOf_23 : decode cX1_aheadOf 23 = .ok (.iaload, 1) := by decide +kernel
theorem dX1_aheadOf_24 : decode cX1_aheadOf 24 = .ok (.iload_n 1, 1) := by decide +kernel
theorem dX1_aheadOf_25 : decode cX1_aheadOf 25 = .ok (.if_icmp .ne 5, 3) := by decide +kernel
theorem dX1_aheadOf_28 : decode cX1_aheadOf 28 = .ok (.iload_n 2, 1) := by decide +kernel
theorem dX1_aheadOf_29 : decode cX1_aheadOf 29 = .ok (.ireturn, 1) := by decide +kernel
theorem dX1_aheadOf_30 : decode cX1_aheadOf 30 = .ok (.iload_n 2, 1) := by decide +kernel
theorem dX1_aheadOf_31 : decode cX1_aheadOf 31 = .ok (.iconst 1, 1) := by decide +kernel
theorem dX1_aheadOf_32 : decode cX1_aheadOf 32 = .ok (.aload_n 0, 1) := by decide +kernel
theorem dX1_aheadOf_33 : decode cX1_aheadOf 33 = .ok (.getfield 9, 3) := by decide +kernel
theorem dX1_aheadOf_36 : decode cX1_aheadOf 36 = .ok (.iload_n 3, 1) := by decide +kernel
theorem dX1_aheadOf_37 : decode cX1_aheadOf 37 = .ok (.iaload, 1) := by decide +kernel
theorem dX1_aheadOf_38 : decode cX1_aheadOf 38 = .ok (.ishl, 1) := by decide +kernel
theorem dX1_aheadOf_39 : decode cX1_aheadOf 39 = .ok (.ior, 1) := by decide +kernel
theorem dX1_aheadOf_40 : decode cX1_aheadOf 40 = .ok (.istore_n 2, 1) := by decide +kernel
theorem dX1_aheadOf_41 : decode cX1_aheadOf 41 = .ok (.iinc 3 1, 3) := by decide +kernel
theorem dX1_aheadOf_44 : decode cX1_aheadOf 44 = .ok (.goto (-40), 3) := by decide +kernel
theorem dX1_aheadOf_47 : decode cX1_aheadOf 47 = .ok (.iconst 0, 1) := by decide +kernel
theorem dX1_aheadOf_48 : decode cX1_aheadOf 48 = .ok (.ireturn, 1) := by decide +kernel
