theorem dX3_beginnings_42 : decode cX3_beginnings 42 = .ok (.istore_n 2, 1) := by decide +kernel
theorem dX3_beginnings_43 : decode cX3_beginnings 43 = .ok (.iinc 3 1, 3) := by decide +kernel
theorem dX3_beginnings_46 : decode cX3_beginnings 46 = .ok (.goto (-42), 3) := by decide +kernel
theorem dX3_beginnings_49 : decode cX3_beginnings 49 = .ok (.iload_n 2, 1) := by decide +kernel
theorem dX3_beginnings_50 : decode cX3_beginnings 50 = .ok (.ireturn, 1) := by decide +kernel
theorem dX3_suffices_0 : decode cX3_suffices 0 = .ok (.iload_n 2, 1) := by decide +kernel
theorem dX3_suffices_1 : decode cX3_suffices 1 = .ok (.aload_n 0, 1) := by decide +kernel
theorem dX3_suffices_2 : decode cX3_suffices 2 = .ok (.getfield 19, 3) := by decide +kernel
theorem dX3_suffices_5 : decode cX3_suffices 5 = .ok (.getfield 210, 3) := by decide +kernel
theorem dX3_suffices_8 : decode cX3_suffices 8 = .ok (.iconst (-1), 1) := by decide +kernel
theorem dX3_suffices_9 : decode cX3_suffices 9 = .ok (.ixor, 1) := by decide +kernel
theorem dX3_suffices_10 : decode cX3_suffices 10 = .ok (.iand, 1) := by decide +kernel
theorem dX3_suffices_11 : decode cX3_suffices 11 = .ok (.aload_n 0, 1) := by decide +kernel
theorem dX3_suffices_12 : decode cX3_suffices 12 = .ok (.getfield 19, 3) := by decide +kernel
theorem dX3_suffices_15 : decode cX3_suffices 15 = .ok (.iload_n 1, 1) := by decide +kernel
theorem dX3_suffices_16 : decode cX3_suffices 16 = .ok (.invokevirtual 225, 3) := by decide +kernel
theorem dX3_suffices_19 : decode cX3_suffices 19 = .ok (.iconst (-1), 1) := by decide +kernel
theorem dX3_suffices_20 : decode cX3_suffices 20 = .ok (.ixor, 1) := by decide +kernel
theorem dX3_suffices_21 : decode cX3_suffices 21 = .ok (.iand, 1) := by decide +kernel
theorem dX3_suffices_22 : decode cX3_suffices 22 = .ok (.ifCond .ne 7, 3) := by decide +kernel
theorem dX3_suffices_25 : decode cX3_suffices 25 = .ok (.iconst 1, 1) := by decide +kernel
theorem dX3_suffices_26 : decode cX3_suffices 26 = .ok (.goto 4, 3) := by decide +kernel
theorem dX3_suffices_29 : decode cX3_suffices 29 = .ok (.iconst 0, 1) := by decide +kernel
theorem dX3_suffices_30 : decode cX3_suffices 30 = .ok (.ireturn, 1) := by decide +kernel
theorem dX3_odds_0 : decode cX3_odds 0 = .ok (.aload_n 0, 1) := by decide +kernel
theorem dX3_odds_1 : decode cX3_odds 1 = .ok (.getfield 19, 3) := by decide +kernel
theorem dX3_odds_4 : decode cX3_odds 4 = .ok (.iload_n 1, 1) := by decide +kernel
theorem dX3_odds_5 : decode cX3_odds 5 = .ok (.invokevirtual 78, 3) := by decide +kernel
theorem dX3_odds_8 : decode cX3_odds 8 = .ok (.ifCond .eq 22, 3) := by decide +kernel
theorem dX3_odds_11 : decode cX3_odds 11 = .ok (.iload_n 2, 1) := by decide +kernel
theorem dX3_odds_12 : decode cX3_odds 12 = .ok (.ifCond .lt 18, 3) := by decide +kernel
theorem dX3_odds_15 : decode cX3_odds 15 = .ok (.iload_n 2, 1) := by decide +kernel
theorem dX3_odds_16 : decode cX3_odds 16 = .ok (.bipush 10, 2) := by decide +kernel
theorem dX3_odds_18 : decode cX3_odds 18 = .ok (.if_icmp .gt 12, 3) := by decide +kernel
theorem dX3_odds_21 : decode cX3_odds 21 = .ok (.iload_n 3, 1) := by decide +kernel
theorem dX3_odds_22 : decode cX3_odds 22 = .ok (.ifCond .lt 8, 3) := by decide +kernel
theorem dX3_odds_25 : decode cX3_odds 25 = .ok (.iload_n 3, 1) := by decide +kernel
theorem dX3_odds_26 : decode cX3_odds 26 = .ok (.iconst 1, 1) := by decide +kernel
theorem dX3_odds_27 : decode cX3_odds 27 = .ok (.if_icmp .le 5, 3) := by decide +kernel
theorem dX3_odds_30 : decode cX3_odds 30 = .ok (.iconst (-1), 1) := by decide +kernel
theorem dX3_odds_31 : decode cX3_odds 31 = .ok (.ireturn, 1) := by decide +kernel
theorem dX3_odds_32 : decode cX3_odds 32 = .ok (.aload_n 0, 1) := by decide +kernel
theorem dX3_odds_33 : decode cX3_odds 33 = .ok (.getfield 19, 3) := by decide +kernel
theorem dX3_odds_36 : decode cX3_odds 36 = .ok (.iload_n 1, 1) := by decide +kernel
theorem dX3_odds_37 : decode cX3_odds 37 = .ok (.invokevirtual 81, 3) := by decide +kernel
theorem dX3_odds_40 : decode cX3_odds 40 = .ok (.ifCond .eq 7, 3) := by decide +kernel
theorem dX3_odds_43 : decode cX3_odds 43 = .ok (.iconst 1, 1) := by decide +kernel
theorem dX3_odds_44 : decode cX3_odds 44 = .ok (.goto 13, 3) := by decide +kernel
theorem dX3_odds_47 : decode cX3_odds 47 = .ok (.aload_n 0, 1) := by decide +kernel
theorem dX3_odds_48 : decode cX3_odds 48 = .ok (.iconst 1, 1) := by decide +kernel
theorem dX3_odds_49 : decode cX3_odds 49 = .ok (.iload_n 1, 1) := by decide +kernel
theorem dX3_odds_50 : decode cX3_odds 50 = .ok (.ishl, 1) := by decide +kernel
theorem dX3_odds_51 : decode cX3_odds 51 = .ok (.invokevirtual 222, 3) := by decide +kernel
theorem dX3_odds_54 : decode cX3_odds 54 = .ok (.invokestatic 217, 3) := by decide +kernel
theorem dX3_odds_57 : decode cX3_odds 57 = .ok (.istore 4, 2) := by decide +kernel
theorem dX3_odds_59 : decode cX3_odds 59 = .ok (.iconst 1, 1) := by decide +kernel
theorem dX3_odds_60 : decode cX3_odds 60 = .ok (.istore 5, 2) := by decide +kernel
theorem dX3_odds_62 : decode cX3_odds 62 = .ok (.iconst 1, 1) := by decide +kernel
theorem dX3_odds_63 : decode cX3_odds 63 = .ok (.istore 6, 2) := by decide +kernel
theorem dX3_odds_65 : decode cX3_odds 65 = .ok (.iconst 0, 1) := by decide +kernel
theorem dX3_odds_66 : decode cX3_odds 66 = .ok (.istore 7, 2) := by decide +kernel
theorem dX3_odds_68 : decode cX3_odds 68 = .ok (.iload 7, 2) := by decide +kernel
theorem dX3_odds_70 : decode cX3_odds 70 = .ok (.iload 4, 2) := by decide +kernel
theorem dX3_odds_72 : decode cX3_odds 72 = .ok (.if_icmp .ge 25, 3) := by decide +kernel
theorem dX3_odds_75 : decode cX3_odds 75 = .ok (.iload 5, 2) := by decide +kernel
theorem dX3_odds_77 : decode cX3_odds 77 = .ok (.bipush 10, 2) := by decide +kernel
theorem dX3_odds_79 : decode cX3_odds 79 = .ok (.imul, 1) := by decide +kernel
theorem dX3_odds_80 : decode cX3_odds 80 = .ok (.istore 5, 2) := by decide +kernel
theorem dX3_odds_82 : decode cX3_odds 82 = .ok (.iload 6, 2) := by decide +kernel
theorem dX3_odds_84 : decode cX3_odds 84 = .ok (.bipush 10, 2) := by decide +kernel
theorem dX3_odds_86 : decode cX3_odds 86 = .ok (.iload_n 2, 1) := by decide +kernel
theorem dX3_odds_87 : decode cX3_odds 87 = .ok (.isub, 1) := by decide +kernel
theorem dX3_odds_88 : decode cX3_odds 88 = .ok (.imul, 1) := by decide +kernel
theorem dX3_odds_89 : decode cX3_odds 89 = .ok (.istore 6, 2) := by decide +kernel
theorem dX3_odds_91 : decode cX3_odds 91 = .ok (.iinc 7 1, 3) := by decide +kernel
theorem dX3_odds_94 : decode cX3_odds 94 = .ok (.goto (-26), 3) := by decide +kernel
theorem dX3_odds_97 : decode cX3_odds 97 = .ok (.iload_n 3, 1) := by decide +kernel
theorem dX3_odds_98 : decode cX3_odds 98 = .ok (.ifCond .ne 11, 3) := by decide +kernel
theorem dX3_odds_101 : decode cX3_odds 101 = .ok (.iload 5, 2) := by decide +kernel
theorem dX3_odds_103 : decode cX3_odds 103 = .ok (.iload 6, 2) := by decide +kernel
theorem dX3_odds_105 : decode cX3_odds 105 = .ok (.isub, 1) := by decide +kernel
theorem dX3_odds_106 : decode cX3_odds 106 = .ok (.goto 5, 3) := by decide +kernel
theorem dX3_odds_109 : decode cX3_odds 109 = .ok (.iload 5, 2) := by decide +kernel
theorem dX3_odds_111 : decode cX3_odds 111 = .ok (.istore 7, 2) := by decide +kernel
theorem dX3_odds_113 : decode cX3_odds 113 = .ok (.iload 5, 2) := by decide +kernel
theorem dX3_odds_115 : decode cX3_odds 115 = .ok (.iload 6, 2) := by decide +kernel
theorem dX3_odds_117 : decode cX3_odds 117 = .ok (.isub, 1) := by decide +kernel
theorem dX3_odds_118 : decode cX3_odds 118 = .ok (.iload 5, 2) := by decide +kernel
theorem dX3_odds_120 : decode cX3_odds 120 = .ok (.invokestatic 228, 3) := by decide +kernel
theorem dX3_odds_123 : decode cX3_odds 123 = .ok (.istore 8, 2) := by decide +kernel
theorem dX3_odds_125 : decode cX3_odds 125 = .ok (.iload 8, 2) := by decide +kernel
theorem dX3_odds_127 : decode cX3_odds 127 = .ok (.ifCond .le 11, 3) := by decide +kernel
theorem dX3_odds_130 : decode cX3_odds 130 = .ok (.iload 7, 2) := by decide +kernel
theorem dX3_odds_132 : decode cX3_odds 132 = .ok (.iload 8, 2) := by decide +kernel
theorem dX3_odds_134 : decode cX3_odds 134 = .ok (.idiv, 1) := by decide +kernel
theorem dX3_odds_135 : decode cX3_odds 135 = .ok (.goto 5, 3) := by decide +kernel
theorem dX3_odds_138 : decode cX3_odds 138 = .ok (.iload 7, 2) := by decide +kernel
theorem dX3_odds_140 : decode cX3_odds 140 = .ok (.ireturn, 1) := by decide +kernel
theorem dX3_commonDivisor_0 : decode cX3_commonDivisor 0 = .ok (.iload_n 1, 1) := by decide +kernel
theorem dX3_commonDivisor_1 : decode cX3_commonDivisor 1 = .ok (.istore_n 2, 1) := by decide +kernel
theorem dX3_commonDivisor_2 : decode cX3_commonDivisor 2 = .ok (.iload_n 0, 1) := by decide +kernel
theorem dX3_commonDivisor_3 : decode cX3_commonDivisor 3 = .ok (.istore_n 3, 1) := by decide +kernel
theorem dX3_commonDivisor_4 : decode cX3_commonDivisor 4 = .ok (.iconst 0, 1) := by decide +kernel
theorem dX3_commonDivisor_5 : decode cX3_commonDivisor 5 = .ok (.istore 4, 2) := by decide +kernel
theorem dX3_commonDivisor_7 : decode cX3_commonDivisor 7 = .ok (.iload 4, 2) := by decide +kernel
theorem dX3_commonDivisor_9 : decode cX3_commonDivisor 9 = .ok (.bipush 100, 2) := by decide +kernel
theorem dX3_commonDivisor_11 : decode cX3_commonDivisor 11 = .ok (.if_icmp .ge 23, 3) := by decide +kernel
theorem dX3_commonDivisor_14 : decode cX3_commonDivisor 14 = .ok (.iload_n 3, 1) := by decide +kernel
theorem dX3_commonDivisor_15 : decode cX3_commonDivisor 15 = .ok (.ifCond .eq 19, 3) := by decide +kernel
theorem dX3_commonDivisor_18 : decode cX3_commonDivisor 18 = .ok (.iload_n 2, 1) := by decide +kernel
theorem dX3_commonDivisor_19 : decode cX3_commonDivisor 19 = .ok (.iload_n 3, 1) := by decide +kernel
theorem dX3_commonDivisor_20 : decode cX3_commonDivisor 20 = .ok (.irem, 1) := by decide +kernel
theorem dX3_commonDivisor_21 : decode cX3_commonDivisor 21 = .ok (.istore 5, 2) := by decide +kernel
theorem dX3_commonDivisor_23 : decode cX3_commonDivisor 23 = .ok (.iload_n 3, 1) := by decide +kernel
theorem dX3_commonDivisor_24 : decode cX3_commonDivisor 24 = .ok (.istore_n 2, 1) := by decide +kernel
theorem dX3_commonDivisor_25 : decode cX3_commonDivisor 25 = .ok (.iload 5, 2) := by decide +kernel
theorem dX3_commonDivisor_27 : decode cX3_commonDivisor 27 = .ok (.istore_n 3, 1) := by decide +kernel
theorem dX3_commonDivisor_28 : decode cX3_commonDivisor 28 = .ok (.iinc 4 1, 3) := by decide +kernel
theorem dX3_commonDivisor_31 : decode cX3_commonDivisor 31 = .ok (.goto (-24), 3) := by decide +kernel
theorem dX3_commonDivisor_34 : decode cX3_commonDivisor 34 = .ok (.iload_n 2, 1) := by decide +kernel
theorem dX3_commonDivisor_35 : decode cX3_commonDivisor 35 = .ok (.ireturn, 1) := by decide +kernel
theorem dX3_tells_0 : decode cX3_tells 0 = .ok (.aload_n 0, 1) := by decide +kernel
theorem dX3_tells_1 : decode cX3_tells 1 = .ok (.getfield 19, 3) := by decide +kernel
theorem dX3_tells_4 : decode cX3_tells 4 = .ok (.iload_n 1, 1) := by decide +kernel
theorem dX3_tells_5 : decode cX3_tells 5 = .ok (.invokevirtual 78, 3) := by decide +kernel
theorem dX3_tells_8 : decode cX3_tells 8 = .ok (.ifCond .eq 19, 3) := by decide +kernel
theorem dX3_tells_11 : decode cX3_tells 11 = .ok (.aload_n 0, 1) := by decide +kernel
theorem dX3_tells_12 : decode cX3_tells 12 = .ok (.getfield 19, 3) := by decide +kernel
theorem dX3_tells_15 : decode cX3_tells 15 = .ok (.iload_n 2, 1) := by decide +kernel
theorem dX3_tells_16 : decode cX3_tells 16 = .ok (.invokevirtual 78, 3) := by decide +kernel
theorem dX3_tells_19 : decode cX3_tells 19 = .ok (.ifCond .eq 8, 3) := by decide +kernel
theorem dX3_tells_22 : decode cX3_tells 22 = .ok (.iload_n 1, 1) := by decide +kernel
theorem dX3_tells_23 : decode cX3_tells 23 = .ok (.iload_n 2, 1) := by decide +kernel
theorem dX3_tells_24 : decode cX3_tells 24 = .ok (.if_icmp .ne 5, 3) := by decide +kernel
theorem dX3_tells_27 : decode cX3_tells 27 = .ok (.iconst (-1), 1) := by decide +kernel
theorem dX3_tells_28 : decode cX3_tells 28 = .ok (.ireturn, 1) := by decide +kernel
theorem dX3_tells_29 : decode cX3_tells 29 = .ok (.aload_n 0, 1) := by decide +kernel
theorem dX3_tells_30 : decode cX3_tells 30 = .ok (.getfield 43, 3) := by decide +kernel
theorem dX3_tells_33 : decode cX3_tells 33 = .ok (.bipush 6, 2) := by decide +kernel
theorem dX3_tells_35 : decode cX3_tells 35 = .ok (.if_icmp .lt 6, 3) := by decide +kernel
theorem dX3_tells_38 : decode cX3_tells 38 = .ok (.bipush (-3), 2) := by decide +kernel
theorem dX3_tells_40 : decode cX3_tells 40 = .ok (.ireturn, 1) := by decide +kernel
theorem dX3_tells_41 : decode cX3_tells 41 = .ok (.aload_n 0, 1) := by decide +kernel
theorem dX3_tells_42 : decode cX3_tells 42 = .ok (.getfield 39, 3) := by decide +kernel
theorem dX3_tells_45 : decode cX3_tells 45 = .ok (.iload_n 2, 1) := by decide +kernel
theorem dX3_tells_46 : decode cX3_tells 46 = .ok (.dup2, 1) := by decide +kernel
theorem dX3_tells_47 : decode cX3_tells 47 = .ok (.iaload, 1) := by decide +kernel
theorem dX3_tells_48 : decode cX3_tells 48 = .ok (.iconst 1, 1) := by decide +kernel
theorem dX3_tells_49 : decode cX3_tells 49 = .ok (.iload_n 1, 1) := by decide +kernel
theorem dX3_tells_50 : decode cX3_tells 50 = .ok (.ishl, 1) := by decide +kernel
theorem dX3_tells_51 : decode cX3_tells 51 = .ok (.ior, 1) := by decide +kernel
theorem dX3_tells_52 : decode cX3_tells 52 = .ok (.iastore, 1) := by decide +kernel
theorem dX3_tells_53 : decode cX3_tells 53 = .ok (.aload_n 0, 1) := by decide +kernel
theorem dX3_tells_54 : decode cX3_tells 54 = .ok (.dup, 1) := by decide +kernel
theorem dX3_tells_55 : decode cX3_tells 55 = .ok (.getfield 43, 3) := by decide +kernel
theorem dX3_tells_58 : decode cX3_tells 58 = .ok (.iconst 1, 1) := by decide +kernel
theorem dX3_tells_59 : decode cX3_tells 59 = .ok (.iadd, 1) := by decide +kernel
theorem dX3_tells_60 : decode cX3_tells 60 = .ok (.putfield 43, 3) := by decide +kernel
theorem dX3_tells_63 : decode cX3_tells 63 = .ok (.aload_n 0, 1) := by decide +kernel
theorem dX3_tells_64 : decode cX3_tells 64 = .ok (.getfield 43, 3) := by decide +kernel
theorem dX3_tells_67 : decode cX3_tells 67 = .ok (.ireturn, 1) := by decide +kernel
theorem dX3_forget_0 : decode cX3_forget 0 = .ok (.aload_n 0, 1) := by decide +kernel
theorem dX3_forget_1 : decode cX3_forget 1 = .ok (.getfield 43, 3) := by decide +kernel
theorem dX3_forget_4 : decode cX3_forget 4 = .ok (.istore_n 1, 1) := by decide +kernel
theorem dX3_forget_5 : decode cX3_forget 5 = .ok (.aload_n 0, 1) := by decide +kernel
theorem dX3_forget_6 : decode cX3_forget 6 = .ok (.invokevirtual 75, 3) := by decide +kernel
theorem dX3_forget_9 : decode cX3_forget 9 = .ok (.iload_n 1, 1) := by decide +kernel
theorem dX3_forget_10 : decode cX3_forget 10 = .ok (.ireturn, 1) := by decide +kernel
theorem dX3_tellNothing_0 : decode cX3_tellNothing 0 = .ok (.iconst 0, 1) := by decide +kernel
theorem dX3_tellNothing_1 : decode cX3_tellNothing 1 = .ok (.istore_n 1, 1) := by decide +kernel
theorem dX3_tellNothing_2 : decode cX3_tellNothing 2 = .ok (.iload_n 1, 1) := by decide +kernel
theorem dX3_tellNothing_3 : decode cX3_tellNothing 3 = .ok (.bipush 8, 2) := by decide +kernel
theorem dX3_tellNothing_5 : decode cX3_tellNothing 5 = .ok (.if_icmp .ge 16, 3) := by decide +kernel
theorem dX3_tellNothing_8 : decode cX3_tellNothing 8 = .ok (.aload_n 0, 1) := by decide +kernel
theorem dX3_tellNothing_9 : decode cX3_tellNothing 9 = .ok (.getfield 39, 3) := by decide +kernel
theorem dX3_tellNothing_12 : decode cX3_tellNothing 12 = .ok (.iload_n 1, 1) := by decide +kernel
theorem dX3_tellNothing_13 : decode cX3_tellNothing 13 = .ok (.iconst 0, 1) := by decide +kernel
theorem dX3_tellNothing_14 : decode cX3_tellNothing 14 = .ok (.iastore, 1) := by decide +kernel
theorem dX3_tellNothing_15 : decode cX3_tellNothing 15 = .ok (.iinc 1 1, 3) := by decide +kernel
theorem dX3_tellNothing_18 : decode cX3_tellNothing 18 = .ok (.goto (-16), 3) := by decide +kernel
theorem dX3_tellNothing_21 : decode cX3_tellNothing 21 = .ok (.aload_n 0, 1) := by decide +kernel
theorem dX3_tellNothing_22 : decode cX3_tellNothing 22 = .ok (.iconst 0, 1) := by decide +kernel
theorem dX3_tellNothing_23 : decode cX3_tellNothing 23 = .ok (.putfield 43, 3) := by decide +kernel
theorem dX3_tellNothing_26 : decode cX3_tellNothing 26 = .ok (.return_, 1) := by decide +kernel
theorem dX3_fits_0 : decode cX3_fits 0 = .ok (.iconst 0, 1) := by decide +kernel
theorem dX3_fits_1 : decode cX3_fits 1 = .ok (.istore_n 1, 1) := by decide +kernel
theorem dX3_fits_2 : decode cX3_fits 2 = .ok (.iload_n 1, 1) := by decide +kernel
theorem dX3_fits_3 : decode cX3_fits 3 = .ok (.bipush 8, 2) := by decide +kernel
theorem dX3_fits_5 : decode cX3_fits 5 = .ok (.if_icmp .ge 31, 3) := by decide +kernel
theorem dX3_fits_8 : decode cX3_fits 8 = .ok (.aload_n 0, 1) := by decide +kernel
theorem dX3_fits_9 : decode cX3_fits 9 = .ok (.getfield 39, 3) := by decide +kernel
theorem dX3_fits_12 : decode cX3_fits 12 = .ok (.iload_n 1, 1) := by decide +kernel
theorem dX3_fits_13 : decode cX3_fits 13 = .ok (.iaload, 1) := by decide +kernel
theorem dX3_fits_14 : decode cX3_fits 14 = .ok (.aload_n 0, 1) := by decide +kernel
theorem dX3_fits_15 : decode cX3_fits 15 = .ok (.getfield 29, 3) := by decide +kernel
theorem dX3_fits_18 : decode cX3_fits 18 = .ok (.iload_n 1, 1) := by decide +kernel
theorem dX3_fits_19 : decode cX3_fits 19 = .ok (.invokevirtual 231, 3) := by decide +kernel
theorem dX3_fits_22 : decode cX3_fits 22 = .ok (.iconst (-1), 1) := by decide +kernel
theorem dX3_fits_23 : decode cX3_fits 23 = .ok (.ixor, 1) := by decide +kernel
theorem dX3_fits_24 : decode cX3_fits 24 = .ok (.iand, 1) := by decide +kernel
theorem dX3_fits_25 : decode cX3_fits 25 = .ok (.ifCond .eq 5, 3) := by decide +kernel
theorem dX3_fits_28 : decode cX3_fits 28 = .ok (.iconst 0, 1) := by decide +kernel
theorem dX3_fits_29 : decode cX3_fits 29 = .ok (.ireturn, 1) := by decide +kernel
theorem dX3_fits_30 : decode cX3_fits 30 = .ok (.iinc 1 1, 3) := by decide +kernel
theorem dX3_fits_33 : decode cX3_fits 33 = .ok (.goto (-31), 3) := by decide +kernel
theorem dX3_fits_36 : decode cX3_fits 36 = .ok (.iconst 1, 1) := by decide +kernel
theorem dX3_fits_37 : decode cX3_fits 37 = .ok (.ireturn, 1) := by decide +kernel
theorem dX3_orders_0 : decode cX3_orders 0 = .ok (.aload_n 0, 1) := by decide +kernel
theorem dX3_orders_1 : decode cX3_orders 1 = .ok (.getfield 19, 3) := by decide +kernel
theorem dX3_orders_4 : decode cX3_orders 4 = .ok (.iload_n 1, 1) := by decide +kernel
theorem dX3_orders_5 : decode cX3_orders 5 = .ok (.invokevirtual 204, 3) := by decide +kernel
theorem dX3_orders_8 : decode cX3_orders 8 = .ok (.ifCond .ne 5, 3) := by decide +kernel
theorem dX3_orders_11 : decode cX3_orders 11 = .ok (.iconst (-1), 1) := by decide +kernel
theorem dX3_orders_12 : decode cX3_orders 12 = .ok (.ireturn, 1) := by decide +kernel
theorem dX3_orders_13 : decode cX3_orders 13 = .ok (.aload_n 0, 1) := by decide +kernel
theorem dX3_orders_14 : decode cX3_orders 14 = .ok (.getfield 50, 3) := by decide +kernel
theorem dX3_orders_17 : decode cX3_orders 17 = .ok (.iconst 0, 1) := by decide +kernel
theorem dX3_orders_18 : decode cX3_orders 18 = .ok (.iconst 1, 1) := by decide +kernel
theorem dX3_orders_19 : decode cX3_orders 19 = .ok (.iastore, 1) := by decide +kernel
theorem dX3_orders_20 : decode cX3_orders 20 = .ok (.iconst 1, 1) := by decide +kernel
theorem dX3_orders_21 : decode cX3_orders 21 = .ok (.istore_n 2, 1) := by decide +kernel
theorem dX3_orders_22 : decode cX3_orders 22 = .ok (.iload_n 2, 1) := by decide +kernel
theorem dX3_orders_23 : decode cX3_orders 23 = .ok (.iload_n 1, 1) := by decide +kernel
theorem dX3_orders_24 : decode cX3_orders 24 = .ok (.if_icmp .gt 29, 3) := by decide +kernel
theorem dX3_orders_27 : decode cX3_orders 27 = .ok (.iload_n 2, 1) := by decide +kernel
theorem dX3_orders_28 : decode cX3_orders 28 = .ok (.iload_n 1, 1) := by decide +kernel
theorem dX3_orders_29 : decode cX3_orders 29 = .ok (.iconst (-1), 1) := by decide +kernel
theorem dX3_orders_30 : decode cX3_orders 30 = .ok (.ixor, 1) := by decide +kernel
theorem dX3_orders_31 : decode cX3_orders 31 = .ok (.iand, 1) := by decide +kernel
theorem dX3_orders_32 : decode cX3_orders 32 = .ok (.ifCond .ne 15, 3) := by decide +kernel
theorem dX3_orders_35 : decode cX3_orders 35 = .ok (.aload_n 0, 1) := by decide +kernel
theorem dX3_orders_36 : decode cX3_orders 36 = .ok (.getfield 50, 3) := by decide +kernel
theorem dX3_orders_39 : decode cX3_orders 39 = .ok (.iload_n 2, 1) := by decide +kernel
theorem dX3_orders_40 : decode cX3_orders 40 = .ok (.aload_n 0, 1) := by decide +kernel
theorem dX3_orders_41 : decode cX3_orders 41 = .ok (.iload_n 2, 1) := by decide +kernel
theorem dX3_orders_42 : decode cX3_orders 42 = .ok (.iload_n 1, 1) := by decide +kernel
theorem dX3_orders_43 : decode cX3_orders 43 = .ok (.invokevirtual 234, 3) := by decide +kernel
theorem dX3_orders_46 : decode cX3_orders 46 = .ok (.iastore, 1) := by decide +kernel
theorem dX3_orders_47 : decode cX3_orders 47 = .ok (.iinc 2 1, 3) := by decide +kernel
theorem dX3_orders_50 : decode cX3_orders 50 = .ok (.goto (-28), 3) := by decide +kernel
theorem dX3_orders_53 : decode cX3_orders 53 = .ok (.aload_n 0, 1) := by decide +kernel
theorem dX3_orders_54 : decode cX3_orders 54 = .ok (.getfield 50, 3) := by decide +kernel
theorem dX3_orders_57 : decode cX3_orders 57 = .ok (.iload_n 1, 1) := by decide +kernel
theorem dX3_orders_58 : decode cX3_orders 58 = .ok (.iaload, 1) := by decide +kernel
theorem dX3_orders_59 : decode cX3_orders 59 = .ok (.ireturn, 1) := by decide +kernel
theorem dX3_waysTo_0 : decode cX3_waysTo 0 = .ok (.iconst 0, 1) := by decide +kernel
theorem dX3_waysTo_1 : decode cX3_waysTo 1 = .ok (.istore_n 3, 1) := by decide +kernel
theorem dX3_waysTo_2 : decode cX3_waysTo 2 = .ok (.iconst 0, 1) := by decide +kernel
theorem dX3_waysTo_3 : decode cX3_waysTo 3 = .ok (.istore 4, 2) := by decide +kernel
theorem dX3_waysTo_5 : decode cX3_waysTo 5 = .ok (.iload 4, 2) := by decide +kernel
theorem dX3_waysTo_7 : decode cX3_waysTo 7 = .ok (.aload_n 0, 1) := by decide +kernel
theorem dX3_waysTo_8 : decode cX3_waysTo 8 = .ok (.getfield 19, 3) := by decide +kernel
theorem dX3_waysTo_11 : decode cX3_waysTo 11 = .ok (.getfield 207, 3) := by decide +kernel
theorem dX3_waysTo_14 : decode cX3_waysTo 14 = .ok (.if_icmp .ge 73, 3) := by decide +kernel
theorem dX3_waysTo_17 : decode cX3_waysTo 17 = .ok (.iload 4, 2) := by decide +kernel
theorem dX3_waysTo_19 : decode cX3_waysTo 19 = .ok (.bipush 8, 2) := by decide +kernel
theorem dX3_waysTo_21 : decode cX3_waysTo 21 = .ok (.if_icmp .ge 66, 3) := by decide +kernel
theorem dX3_waysTo_24 : decode cX3_waysTo 24 = .ok (.iload_n 1, 1) := by decide +kernel
theorem dX3_waysTo_25 : decode cX3_waysTo 25 = .ok (.iconst 1, 1) := by decide +kernel
theorem dX3_waysTo_26 : decode cX3_waysTo 26 = .ok (.iload 4, 2) := by decide +kernel
theorem dX3_waysTo_28 : decode cX3_waysTo 28 = .ok (.ishl, 1) := by decide +kernel
theorem dX3_waysTo_29 : decode cX3_waysTo 29 = .ok (.iconst (-1), 1) := by decide +kernel
theorem dX3_waysTo_30 : decode cX3_waysTo 30 = .ok (.ixor, 1) := by decide +kernel
theorem dX3_waysTo_31 : decode cX3_waysTo 31 = .ok (.iand, 1) := by decide +kernel
theorem dX3_waysTo_32 : decode cX3_waysTo 32 = .ok (.istore 5, 2) := by decide +kernel
theorem dX3_waysTo_34 : decode cX3_waysTo 34 = .ok (.iload 5, 2) := by decide +kernel
theorem dX3_waysTo_36 : decode cX3_waysTo 36 = .ok (.iload_n 1, 1) := by decide +kernel
theorem dX3_waysTo_37 : decode cX3_waysTo 37 = .ok (.if_icmp .eq 44, 3) := by decide +kernel
theorem dX3_waysTo_40 : decode cX3_waysTo 40 = .ok (.aload_n 0, 1) := by decide +kernel
theorem dX3_waysTo_41 : decode cX3_waysTo 41 = .ok (.getfield 39, 3) := by decide +kernel
theorem dX3_waysTo_44 : decode cX3_waysTo 44 = .ok (.iload 4, 2) := by decide +kernel
theorem dX3_waysTo_46 : decode cX3_waysTo 46 = .ok (.iaload, 1) := by decide +kernel
theorem dX3_waysTo_47 : decode cX3_waysTo 47 = .ok (.iload_n 2, 1) := by decide +kernel
theorem dX3_waysTo_48 : decode cX3_waysTo 48 = .ok (.iand, 1) := by decide +kernel
theorem dX3_waysTo_49 : decode cX3_waysTo 49 = .ok (.iload 5, 2) := by decide +kernel
theorem dX3_waysTo_51 : decode cX3_waysTo 51 = .ok (.iconst (-1), 1) := by decide +kernel
theorem dX3_waysTo_52 : decode cX3_waysTo 52 = .ok (.ixor, 1) := by decide +kernel
theorem dX3_waysTo_53 : decode cX3_waysTo 53 = .ok (.iand, 1) := by decide +kernel
theorem dX3_waysTo_54 : decode cX3_waysTo 54 = .ok (.ifCond .ne 27, 3) := by decide +kernel
theorem dX3_waysTo_57 : decode cX3_waysTo 57 = .ok (.aload_n 0, 1) := by decide +kernel
theorem dX3_waysTo_58 : decode cX3_waysTo 58 = .ok (.getfield 19, 3) := by decide +kernel
theorem dX3_waysTo_61 : decode cX3_waysTo 61 = .ok (.iload 4, 2) := by decide +kernel
theorem dX3_waysTo_63 : decode cX3_waysTo 63 = .ok (.iload 5, 2) := by decide +kernel
theorem dX3_waysTo_65 : decode cX3_waysTo 65 = .ok (.invokevirtual 237, 3) := by decide +kernel
theorem dX3_waysTo_68 : decode cX3_waysTo 68 = .ok (.ifCond .eq 13, 3) := by decide +kernel
theorem dX3_waysTo_71 : decode cX3_waysTo 71 = .ok (.iload_n 3, 1) := by decide +kernel
theorem dX3_waysTo_72 : decode cX3_waysTo 72 = .ok (.aload_n 0, 1) := by decide +kernel
theorem dX3_waysTo_73 : decode cX3_waysTo 73 = .ok (.getfield 50, 3) := by decide +kernel
theorem dX3_waysTo_76 : decode cX3_waysTo 76 = .ok (.iload 5, 2) := by decide +kernel
theorem dX3_waysTo_78 : decode cX3_waysTo 78 = .ok (.iaload, 1) := by decide +kernel
theorem dX3_waysTo_79 : decode cX3_waysTo 79 = .ok (.iadd, 1) := by decide +kernel
theorem dX3_waysTo_80 : decode cX3_waysTo 80 = .ok (.istore_n 3, 1) := by decide +kernel
theorem dX3_waysTo_81 : decode cX3_waysTo 81 = .ok (.iinc 4 1, 3) := by decide +kernel
theorem dX3_waysTo_84 : decode cX3_waysTo 84 = .ok (.goto (-79), 3) := by decide +kernel
theorem dX3_waysTo_87 : decode cX3_waysTo 87 = .ok (.iload_n 3, 1) := by decide +kernel
theorem dX3_waysTo_88 : decode cX3_waysTo 88 = .ok (.ireturn, 1) := by decide +kernel
theorem dX3_mark_0 : decode cX3_mark 0 = .ok (.aload_n 0, 1) := by decide +kernel
theorem dX3_mark_1 : decode cX3_mark 1 = .ok (.getfield 19, 3) := by decide +kernel
theorem dX3_mark_4 : decode cX3_mark 4 = .ok (.iload_n 2, 1) := by decide +kernel
theorem dX3_mark_5 : decode cX3_mark 5 = .ok (.invokevirtual 78, 3) := by decide +kernel
theorem dX3_mark_8 : decode cX3_mark 8 = .ok (.ifCond .ne 6, 3) := by decide +kernel
theorem dX3_mark_11 : decode cX3_mark 11 = .ok (.ldc 240, 2) := by decide +kernel
theorem dX3_mark_13 : decode cX3_mark 13 = .ok (.ireturn, 1) := by decide +kernel
theorem dX3_mark_14 : decode cX3_mark 14 = .ok (.iload_n 1, 1) := by decide +kernel
theorem dX3_mark_15 : decode cX3_mark 15 = .ok (.tableswitch 73 0 5 #[37, 43, 49, 55, 61, 67], 37) := by decide +kernel
theorem dX3_mark_52 : decode cX3_mark 52 = .ok (.aload_n 0, 1) := by decide +kernel
theorem dX3_mark_53 : decode cX3_mark 53 = .ok (.iload_n 2, 1) := by decide +kernel
theorem dX3_mark_54 : decode cX3_mark 54 = .ok (.invokevirtual 241, 3) := by decide +kernel
theorem dX3_mark_57 : decode cX3_mark 57 = .ok (.ireturn, 1) := by decide +kernel
theorem dX3_mark_58 : decode cX3_mark 58 = .ok (.aload_n 0, 1) := by decide +kernel
theorem dX3_mark_59 : decode cX3_mark 59 = .ok (.iload_n 2, 1) := by decide +kernel
theorem dX3_mark_60 : decode cX3_mark 60 = .ok (.invokevirtual 244, 3) := by decide +kernel
theorem dX3_mark_63 : decode cX3_mark 63 = .ok (.ireturn, 1) := by decide +kernel
theorem dX3_mark_64 : decode cX3_mark 64 = .ok (.aload_n 0, 1) := by decide +kernel
theorem dX3_mark_65 : decode cX3_mark 65 = .ok (.iload_n 2, 1) := by decide +kernel
theorem dX3_mark_66 : decode cX3_mark 66 = .ok (.invokevirtual 247, 3) := by decide +kernel
theorem dX3_mark_69 : decode cX3_mark 69 = .ok (.ireturn, 1) := by decide +kernel
theorem dX3_mark_70 : decode cX3_mark 70 = .ok (.aload_n 0, 1) := by decide +kernel
theorem dX3_mark_71 : decode cX3_mark 71 = .ok (.iload_n 2, 1) := by decide +kernel
theorem dX3_mark_72 : decode cX3_mark 72 = .ok (.invokevirtual 250, 3) := by decide +kernel
theorem dX3_mark_75 : decode cX3_mark 75 = .ok (.ireturn, 1) := by decide +kernel
theorem dX3_mark_76 : decode cX3_mark 76 = .ok (.aload_n 0, 1) := by decide +kernel
theorem dX3_mark_77 : decode cX3_mark 77 = .ok (.iload_n 2, 1) := by decide +kernel
theorem dX3_mark_78 : decode cX3_mark 78 = .ok (.invokevirtual 253, 3) := by decide +kernel
theorem dX3_mark_81 : decode cX3_mark 81 = .ok (.ireturn, 1) := by decide +kernel
theorem dX3_mark_82 : decode cX3_mark 82 = .ok (.aload_n 0, 1) := by decide +kernel
theorem dX3_mark_83 : decode cX3_mark 83 = .ok (.iload_n 2, 1) := by decide +kernel
theorem dX3_mark_84 : decode cX3_mark 84 = .ok (.invokevirtual 256, 3) := by decide +kernel
theorem dX3_mark_87 : decode cX3_mark 87 = .ok (.ireturn, 1) := by decide +kernel
theorem dX3_mark_88 : decode cX3_mark 88 = .ok (.ldc 240, 2) := by decide +kernel
theorem dX3_mark_90 : decode cX3_mark 90 = .ok (.ireturn, 1) := by decide +kernel
theorem dX3_asSaying_0 : decode cX3_asSaying 0 = .ok (.aload_n 0, 1) := by decide +kernel
theorem dX3_asSaying_1 : decode cX3_asSaying 1 = .ok (.dup, 1) := by decide +kernel
theorem dX3_asSaying_2 : decode cX3_asSaying 2 = .ok (.getfield 53, 3) := by decide +kernel
theorem dX3_asSaying_5 : decode cX3_asSaying 5 = .ok (.lconst 1, 1) := by decide +kernel
theorem dX3_asSaying_6 : decode cX3_asSaying 6 = .ok (.ladd, 1) := by decide +kernel
theorem dX3_asSaying_7 : decode cX3_asSaying 7 = .ok (.putfield 53, 3) := by decide +kernel
theorem dX3_asSaying_10 : decode cX3_asSaying 10 = .ok (.aload_n 0, 1) := by decide +kernel
theorem dX3_asSaying_11 : decode cX3_asSaying 11 = .ok (.getfield 19, 3) := by decide +kernel
theorem dX3_asSaying_14 : decode cX3_asSaying 14 = .ok (.iload_n 1, 1) := by decide +kernel
theorem dX3_asSaying_15 : decode cX3_asSaying 15 = .ok (.invokevirtual 182, 3) := by decide +kernel
theorem dX3_asSaying_18 : decode cX3_asSaying 18 = .ok (.ireturn, 1) := by decide +kernel
theorem dX3_asCough_0 : decode cX3_asCough 0 = .ok (.aload_n 0, 1) := by decide +kernel
theorem dX3_asCough_1 : decode cX3_asCough 1 = .ok (.dup, 1) := by decide +kernel
theorem dX3_asCough_2 : decode cX3_asCough 2 = .ok (.getfield 53, 3) := by decide +kernel
theorem dX3_asCough_5 : decode cX3_asCough 5 = .ok (.ldc2_w 259, 3) := by decide +kernel
theorem dX3_asCough_8 : decode cX3_asCough 8 = .ok (.ladd, 1) := by decide +kernel
theorem dX3_asCough_9 : decode cX3_asCough 9 = .ok (.putfield 53, 3) := by decide +kernel
theorem dX3_asCough_12 : decode cX3_asCough 12 = .ok (.aload_n 0, 1) := by decide +kernel
theorem dX3_asCough_13 : decode cX3_asCough 13 = .ok (.iload_n 1, 1) := by decide +kernel
theorem dX3_asCough_14 : decode cX3_asCough 14 = .ok (.invokevirtual 241, 3) := by decide +kernel
theorem dX3_asCough_17 : decode cX3_asCough 17 = .ok (.aload_n 0, 1) := by decide +kernel
theorem dX3_asCough_18 : decode cX3_asCough 18 = .ok (.getfield 19, 3) := by decide +kernel
theorem dX3_asCough_21 : decode cX3_asCough 21 = .ok (.iload_n 1, 1) := by decide +kernel
theorem dX3_asCough_22 : decode cX3_asCough 22 = .ok (.invokevirtual 261, 3) := by decide +kernel
theorem dX3_asCough_25 : decode cX3_asCough 25 = .ok (.iadd, 1) := by decide +kernel
theorem dX3_asCough_26 : decode cX3_asCough 26 = .ok (.ireturn, 1) := by decide +kernel
theorem dX3_asBell_0 : decode cX3_asBell 0 = .ok (.aload_n 0, 1) := by decide +kernel
theorem dX3_asBell_1 : decode cX3_asBell 1 = .ok (.dup, 1) := by decide +kernel
theorem dX3_asBell_2 : decode cX3_asBell 2 = .ok (.getfield 53, 3) := by decide +kernel
theorem dX3_asBell_5 : decode cX3_asBell 5 = .ok (.ldc2_w 264, 3) := by decide +kernel
theorem dX3_asBell_8 : decode cX3_asBell 8 = .ok (.ladd, 1) := by decide +kernel
theorem dX3_asBell_9 : decode cX3_asBell 9 = .ok (.putfield 53, 3) := by decide +kernel
theorem dX3_asBell_12 : decode cX3_asBell 12 = .ok (.aload_n 0, 1) := by decide +kernel
theorem dX3_asBell_13 : decode cX3_asBell 13 = .ok (.iload_n 1, 1) := by decide +kernel
theorem dX3_asBell_14 : decode cX3_asBell 14 = .ok (.invokevirtual 241, 3) := by decide +kernel
theorem dX3_asBell_17 : decode cX3_asBell 17 = .ok (.aload_n 0, 1) := by decide +kernel
theorem dX3_asBell_18 : decode cX3_asBell 18 = .ok (.getfield 29, 3) := by decide +kernel
theorem dX3_asBell_21 : decode cX3_asBell 21 = .ok (.iload_n 1, 1) := by decide +kernel
theorem dX3_asBell_22 : decode cX3_asBell 22 = .ok (.invokevirtual 94, 3) := by decide +kernel
theorem dX3_asBell_25 : decode cX3_asBell 25 = .ok (.isub, 1) := by decide +kernel
theorem dX3_asBell_26 : decode cX3_asBell 26 = .ok (.ireturn, 1) := by decide +kernel
theorem dX3_asKnock_0 : decode cX3_asKnock 0 = .ok (.aload_n 0, 1) := by decide +kernel
theorem dX3_asKnock_1 : decode cX3_asKnock 1 = .ok (.dup, 1) := by decide +kernel
theorem dX3_asKnock_2 : decode cX3_asKnock 2 = .ok (.getfield 53, 3) := by decide +kernel
theorem dX3_asKnock_5 : decode cX3_asKnock 5 = .ok (.ldc2_w 266, 3) := by decide +kernel
theorem dX3_asKnock_8 : decode cX3_asKnock 8 = .ok (.ladd, 1) := by decide +kernel
theorem dX3_asKnock_9 : decode cX3_asKnock 9 = .ok (.putfield 53, 3) := by decide +kernel
theorem dX3_asKnock_12 : decode cX3_asKnock 12 = .ok (.aload_n 0, 1) := by decide +kernel
theorem dX3_asKnock_13 : decode cX3_asKnock 13 = .ok (.iload_n 1, 1) := by decide +kernel
theorem dX3_asKnock_14 : decode cX3_asKnock 14 = .ok (.invokevirtual 244, 3) := by decide +kernel
theorem dX3_asKnock_17 : decode cX3_asKnock 17 = .ok (.iconst 2, 1) := by decide +kernel
theorem dX3_asKnock_18 : decode cX3_asKnock 18 = .ok (.imul, 1) := by decide +kernel
theorem dX3_asKnock_19 : decode cX3_asKnock 19 = .ok (.ireturn, 1) := by decide +kernel
theorem dX3_asEcho_0 : decode cX3_asEcho 0 = .ok (.aload_n 0, 1) := by decide +kernel
theorem dX3_asEcho_1 : decode cX3_asEcho 1 = .ok (.dup, 1) := by decide +kernel
theorem dX3_asEcho_2 : decode cX3_asEcho 2 = .ok (.getfield 53, 3) := by decide +kernel
theorem dX3_asEcho_5 : decode cX3_asEcho 5 = .ok (.ldc2_w 268, 3) := by decide +kernel
theorem dX3_asEcho_8 : decode cX3_asEcho 8 = .ok (.ladd, 1) := by decide +kernel
theorem dX3_asEcho_9 : decode cX3_asEcho 9 = .ok (.putfield 53, 3) := by decide +kernel
theorem dX3_asEcho_12 : decode cX3_asEcho 12 = .ok (.aload_n 0, 1) := by decide +kernel
theorem dX3_asEcho_13 : decode cX3_asEcho 13 = .ok (.iload_n 1, 1) := by decide +kernel
theorem dX3_asEcho_14 : decode cX3_asEcho 14 = .ok (.invokevirtual 247, 3) := by decide +kernel
theorem dX3_asEcho_17 : decode cX3_asEcho 17 = .ok (.aload_n 0, 1) := by decide +kernel
theorem dX3_asEcho_18 : decode cX3_asEcho 18 = .ok (.getfield 19, 3) := by decide +kernel
theorem dX3_asEcho_21 : decode cX3_asEcho 21 = .ok (.iload_n 1, 1) := by decide +kernel
theorem dX3_asEcho_22 : decode cX3_asEcho 22 = .ok (.invokevirtual 90, 3) := by decide +kernel
theorem dX3_asEcho_25 : decode cX3_asEcho 25 = .ok (.invokestatic 217, 3) := by decide +kernel
theorem dX3_asEcho_28 : decode cX3_asEcho 28 = .ok (.iadd, 1) := by decide +kernel
theorem dX3_asEcho_29 : decode cX3_asEcho 29 = .ok (.ireturn, 1) := by decide +kernel
theorem dX3_asOwl_0 : decode cX3_asOwl 0 = .ok (.aload_n 0, 1) := by decide +kernel
theorem dX3_asOwl_1 : decode cX3_asOwl 1 = .ok (.dup, 1) := by decide +kernel
theorem dX3_asOwl_2 : decode cX3_asOwl 2 = .ok (.getfield 53, 3) := by decide +kernel
theorem dX3_asOwl_5 : decode cX3_asOwl 5 = .ok (.ldc2_w 270, 3) := by decide +kernel
theorem dX3_asOwl_8 : decode cX3_asOwl 8 = .ok (.ladd, 1) := by decide +kernel
theorem dX3_asOwl_9 : decode cX3_asOwl 9 = .ok (.putfield 53, 3) := by decide +kernel
theorem dX3_asOwl_12 : decode cX3_asOwl 12 = .ok (.aload_n 0, 1) := by decide +kernel
theorem dX3_asOwl_13 : decode cX3_asOwl 13 = .ok (.iload_n 1, 1) := by decide +kernel
theorem dX3_asOwl_14 : decode cX3_asOwl 14 = .ok (.invokevirtual 241, 3) := by decide +kernel
theorem dX3_asOwl_17 : decode cX3_asOwl 17 = .ok (.aload_n 0, 1) := by decide +kernel
theorem dX3_asOwl_18 : decode cX3_asOwl 18 = .ok (.getfield 29, 3) := by decide +kernel
theorem dX3_asOwl_21 : decode cX3_asOwl 21 = .ok (.getfield 158, 3) := by decide +kernel
theorem dX3_asOwl_24 : decode cX3_asOwl 24 = .ok (.iadd, 1) := by decide +kernel
theorem dX3_asOwl_25 : decode cX3_asOwl 25 = .ok (.ireturn, 1) := by decide +kernel
theorem dX3_keep_0 : decode cX3_keep 0 = .ok (.iload_n 1, 1) := by decide +kernel
theorem dX3_keep_1 : decode cX3_keep 1 = .ok (.ifCond .lt 8, 3) := by decide +kernel
theorem dX3_keep_4 : decode cX3_keep 4 = .ok (.iload_n 1, 1) := by decide +kernel
theorem dX3_keep_5 : decode cX3_keep 5 = .ok (.iconst 1, 1) := by decide +kernel
theorem dX3_keep_6 : decode cX3_keep 6 = .ok (.if_icmp .le 5, 3) := by decide +kernel
theorem dX3_keep_9 : decode cX3_keep 9 = .ok (.iconst (-1), 1) := by decide +kernel
theorem dX3_keep_10 : decode cX3_keep 10 = .ok (.ireturn, 1) := by decide +kernel
theorem dX3_keep_11 : decode cX3_keep 11 = .ok (.aload_n 0, 1) := by decide +kernel
theorem dX3_keep_12 : decode cX3_keep 12 = .ok (.iload_n 1, 1) := by decide +kernel
theorem dX3_keep_13 : decode cX3_keep 13 = .ok (.invokevirtual 272, 3) := by decide +kernel
theorem dX3_keep_16 : decode cX3_keep 16 = .ok (.astore_n 2, 1) := by decide +kernel
theorem dX3_keep_17 : decode cX3_keep 17 = .ok (.aload_n 2, 1) := by decide +kernel
theorem dX3_keep_18 : decode cX3_keep 18 = .ok (.aload_n 0, 1) := by decide +kernel
theorem dX3_keep_19 : decode cX3_keep 19 = .ok (.getfield 29, 3) := by decide +kernel
theorem dX3_keep_22 : decode cX3_keep 22 = .ok (.invokevirtual 276, 3) := by decide +kernel
theorem dX3_keep_25 : decode cX3_keep 25 = .ok (.aload_n 2, 1) := by decide +kernel
theorem dX3_keep_26 : decode cX3_keep 26 = .ok (.iconst 1, 1) := by decide +kernel
theorem dX3_keep_27 : decode cX3_keep 27 = .ok (.putfield 71, 3) := by decide +kernel
theorem dX3_keep_30 : decode cX3_keep 30 = .ok (.aload_n 0, 1) := by decide +kernel
theorem dX3_keep_31 : decode cX3_keep 31 = .ok (.getfield 29, 3) := by decide +kernel
theorem dX3_keep_34 : decode cX3_keep 34 = .ok (.getfield 158, 3) := by decide +kernel
theorem dX3_keep_37 : decode cX3_keep 37 = .ok (.ireturn, 1) := by decide +kernel
theorem dX3_back_0 : decode cX3_back 0 = .ok (.iload_n 1, 1) := by decide +kernel
theorem dX3_back_1 : decode cX3_back 1 = .ok (.ifCond .lt 8, 3) := by decide +kernel
theorem dX3_back_4 : decode cX3_back 4 = .ok (.iload_n 1, 1) := by decide +kernel
theorem dX3_back_5 : decode cX3_back 5 = .ok (.iconst 1, 1) := by decide +kernel
theorem dX3_back_6 : decode cX3_back 6 = .ok (.if_icmp .le 5, 3) := by decide +kernel
theorem dX3_back_9 : decode cX3_back 9 = .ok (.iconst (-1), 1) := by decide +kernel
theorem dX3_back_10 : decode cX3_back 10 = .ok (.ireturn, 1) := by decide +kernel
theorem dX3_back_11 : decode cX3_back 11 = .ok (.aload_n 0, 1) := by decide +kernel
theorem dX3_back_12 : decode cX3_back 12 = .ok (.iload_n 1, 1) := by decide +kernel
theorem dX3_back_13 : decode cX3_back 13 = .ok (.invokevirtual 272, 3) := by decide +kernel
theorem dX3_back_16 : decode cX3_back 16 = .ok (.astore_n 2, 1) := by decide +kernel
theorem dX3_back_17 : decode cX3_back 17 = .ok (.aload_n 2, 1) := by decide +kernel
theorem dX3_back_18 : decode cX3_back 18 = .ok (.getfield 71, 3) := by decide +kernel
theorem dX3_back_21 : decode cX3_back 21 = .ok (.ifCond .ne 6, 3) := by decide +kernel
theorem dX3_back_24 : decode cX3_back 24 = .ok (.bipush (-2), 2) := by decide +kernel
theorem dX3_back_26 : decode cX3_back 26 = .ok (.ireturn, 1) := by decide +kernel
theorem dX3_back_27 : decode cX3_back 27 = .ok (.aload_n 0, 1) := by decide +kernel
theorem dX3_back_28 : decode cX3_back 28 = .ok (.getfield 29, 3) := by decide +kernel
theorem dX3_back_31 : decode cX3_back 31 = .ok (.aload_n 2, 1) := by decide +kernel
theorem dX3_back_32 : decode cX3_back 32 = .ok (.invokevirtual 276, 3) := by decide +kernel
theorem dX3_back_35 : decode cX3_back 35 = .ok (.aload_n 0, 1) := by decide +kernel
theorem dX3_back_36 : decode cX3_back 36 = .ok (.getfield 29, 3) := by decide +kernel
theorem dX3_back_39 : decode cX3_back 39 = .ok (.getfield 158, 3) := by decide +kernel
theorem dX3_back_42 : decode cX3_back 42 = .ok (.ireturn, 1) := by decide +kernel
theorem dX3_imageOf_0 : decode cX3_imageOf 0 = .ok (.iload_n 1, 1) := by decide +kernel
theorem dX3_imageOf_1 : decode cX3_imageOf 1 = .ok (.ifCond .ne 10, 3) := by decide +kernel
theorem dX3_imageOf_4 : decode cX3_imageOf 4 = .ok (.aload_n 0, 1) := by decide +kernel
theorem dX3_imageOf_5 : decode cX3_imageOf 5 = .ok (.getfield 33, 3) := by decide +kernel
theorem dX3_imageOf_8 : decode cX3_imageOf 8 = .ok (.goto 7, 3) := by decide +kernel
theorem dX3_imageOf_11 : decode cX3_imageOf 11 = .ok (.aload_n 0, 1) := by decide +kernel
theorem dX3_imageOf_12 : decode cX3_imageOf 12 = .ok (.getfield 36, 3) := by decide +kernel
theorem dX3_imageOf_15 : decode cX3_imageOf 15 = .ok (.areturn, 1) := by decide +kernel
theorem dX3_count_0 : decode cX3_count 0 = .ok (.iload_n 1, 1) := by decide +kernel
theorem dX3_count_1 : decode cX3_count 1 = .ok (.tableswitch 84 0 5 #[39, 47, 55, 63, 68, 76], 39) := by decide +kernel
theorem dX3_count_40 : decode cX3_count 40 = .ok (.aload_n 0, 1) := by decide +kernel
theorem dX3_count_41 : decode cX3_count 41 = .ok (.getfield 19, 3) := by decide +kernel
theorem dX3_count_44 : decode cX3_count 44 = .ok (.getfield 207, 3) := by decide +kernel
theorem dX3_count_47 : decode cX3_count 47 = .ok (.ireturn, 1) := by decide +kernel
theorem dX3_count_48 : decode cX3_count 48 = .ok (.aload_n 0, 1) := by decide +kernel
theorem dX3_count_49 : decode cX3_count 49 = .ok (.getfield 19, 3) := by decide +kernel
theorem dX3_count_52 : decode cX3_count 52 = .ok (.getfield 280, 3) := by decide +kernel
theorem dX3_count_55 : decode cX3_count 55 = .ok (.ireturn, 1) := by decide +kernel
theorem dX3_count_56 : decode cX3_count 56 = .ok (.aload_n 0, 1) := by decide +kernel
theorem dX3_count_57 : decode cX3_count 57 = .ok (.getfield 19, 3) := by decide +kernel
theorem dX3_count_60 : decode cX3_count 60 = .ok (.getfield 137, 3) := by decide +kernel
theorem dX3_count_63 : decode cX3_count 63 = .ok (.ireturn, 1) := by decide +kernel
theorem dX3_count_64 : decode cX3_count 64 = .ok (.aload_n 0, 1) := by decide +kernel
theorem dX3_count_65 : decode cX3_count 65 = .ok (.getfield 43, 3) := by decide +kernel
theorem dX3_count_68 : decode cX3_count 68 = .ok (.ireturn, 1) := by decide +kernel
theorem dX3_count_69 : decode cX3_count 69 = .ok (.aload_n 0, 1) := by decide +kernel
theorem dX3_count_70 : decode cX3_count 70 = .ok (.getfield 29, 3) := by decide +kernel
theorem dX3_count_73 : decode cX3_count 73 = .ok (.getfield 164, 3) := by decide +kernel
theorem dX3_count_76 : decode cX3_count 76 = .ok (.ireturn, 1) := by decide +kernel
theorem dX3_count_77 : decode cX3_count 77 = .ok (.aload_n 0, 1) := by decide +kernel
theorem dX3_count_78 : decode cX3_count 78 = .ok (.getfield 12, 3) := by decide +kernel
theorem dX3_count_81 : decode cX3_count 81 = .ok (.getfield 61, 3) := by decide +kernel
theorem dX3_count_84 : decode cX3_count 84 = .ok (.ireturn, 1) := by decide +kernel
theorem dX3_count_85 : decode cX3_count 85 = .ok (.iconst (-1), 1) := by decide +kernel
theorem dX3_count_86 : decode cX3_count 86 = .ok (.ireturn, 1) := by decide +kernel
theorem dX3_trace_0 : decode cX3_trace 0 = .ok (.aload_n 0, 1) := by decide +kernel
theorem dX3_trace_1 : decode cX3_trace 1 = .ok (.getfield 53, 3) := by decide +kernel
theorem dX3_trace_4 : decode cX3_trace 4 = .ok (.lreturn, 1) := by decide +kernel
