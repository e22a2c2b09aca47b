theorem dX4_tells_27 : decode cX4_tells 27 = .ok (.bipush 6, 2) := by decide +kernel
theorem dX4_tells_29 : decode cX4_tells 29 = .ok (.if_icmp .ne 6, 3) := by decide +kernel
theorem dX4_tells_32 : decode cX4_tells 32 = .ok (.bipush (-3), 2) := by decide +kernel
theorem dX4_tells_34 : decode cX4_tells 34 = .ok (.ireturn, 1) := by decide +kernel
theorem dX4_tells_35 : decode cX4_tells 35 = .ok (.aload_n 0, 1) := by decide +kernel
theorem dX4_tells_36 : decode cX4_tells 36 = .ok (.getfield 42, 3) := by decide +kernel
theorem dX4_tells_39 : decode cX4_tells 39 = .ok (.aload_n 0, 1) := by decide +kernel
theorem dX4_tells_40 : decode cX4_tells 40 = .ok (.getfield 102, 3) := by decide +kernel
theorem dX4_tells_43 : decode cX4_tells 43 = .ok (.iload_n 1, 1) := by decide +kernel
theorem dX4_tells_44 : decode cX4_tells 44 = .ok (.iastore, 1) := by decide +kernel
theorem dX4_tells_45 : decode cX4_tells 45 = .ok (.aload_n 0, 1) := by decide +kernel
theorem dX4_tells_46 : decode cX4_tells 46 = .ok (.getfield 45, 3) := by decide +kernel
theorem dX4_tells_49 : decode cX4_tells 49 = .ok (.aload_n 0, 1) := by decide +kernel
theorem dX4_tells_50 : decode cX4_tells 50 = .ok (.getfield 102, 3) := by decide +kernel
theorem dX4_tells_53 : decode cX4_tells 53 = .ok (.iload_n 2, 1) := by decide +kernel
theorem dX4_tells_54 : decode cX4_tells 54 = .ok (.iastore, 1) := by decide +kernel
theorem dX4_tells_55 : decode cX4_tells 55 = .ok (.aload_n 0, 1) := by decide +kernel
theorem dX4_tells_56 : decode cX4_tells 56 = .ok (.dup, 1) := by decide +kernel
theorem dX4_tells_57 : decode cX4_tells 57 = .ok (.getfield 102, 3) := by decide +kernel
theorem dX4_tells_60 : decode cX4_tells 60 = .ok (.iconst 1, 1) := by decide +kernel
theorem dX4_tells_61 : decode cX4_tells 61 = .ok (.iadd, 1) := by decide +kernel
theorem dX4_tells_62 : decode cX4_tells 62 = .ok (.putfield 102, 3) := by decide +kernel
theorem dX4_tells_65 : decode cX4_tells 65 = .ok (.aload_n 0, 1) := by decide +kernel
theorem dX4_tells_66 : decode cX4_tells 66 = .ok (.getfield 102, 3) := by decide +kernel
theorem dX4_tells_69 : decode cX4_tells 69 = .ok (.ireturn, 1) := by decide +kernel
theorem dX4_forget_0 : decode cX4_forget 0 = .ok (.aload_n 0, 1) := by decide +kernel
theorem dX4_forget_1 : decode cX4_forget 1 = .ok (.getfield 102, 3) := by decide +kernel
theorem dX4_forget_4 : decode cX4_forget 4 = .ok (.istore_n 1, 1) := by decide +kernel
theorem dX4_forget_5 : decode cX4_forget 5 = .ok (.aload_n 0, 1) := by decide +kernel
theorem dX4_forget_6 : decode cX4_forget 6 = .ok (.iconst 0, 1) := by decide +kernel
theorem dX4_forget_7 : decode cX4_forget 7 = .ok (.putfield 102, 3) := by decide +kernel
theorem dX4_forget_10 : decode cX4_forget 10 = .ok (.iload_n 1, 1) := by decide +kernel
theorem dX4_forget_11 : decode cX4_forget 11 = .ok (.ireturn, 1) := by decide +kernel
theorem dX4_firstOf_0 : decode cX4_firstOf 0 = .ok (.iconst 0, 1) := by decide +kernel
theorem dX4_firstOf_1 : decode cX4_firstOf 1 = .ok (.istore_n 2, 1) := by decide +kernel
theorem dX4_firstOf_2 : decode cX4_firstOf 2 = .ok (.iload_n 2, 1) := by decide +kernel
theorem dX4_firstOf_3 : decode cX4_firstOf 3 = .ok (.aload_n 0, 1) := by decide +kernel
theorem dX4_firstOf_4 : decode cX4_firstOf 4 = .ok (.getfield 35, 3) := by decide +kernel
theorem dX4_firstOf_7 : decode cX4_firstOf 7 = .ok (.bipush 120, 2) := by decide +kernel
theorem dX4_firstOf_9 : decode cX4_firstOf 9 = .ok (.iaload, 1) := by decide +kernel
theorem dX4_firstOf_10 : decode cX4_firstOf 10 = .ok (.if_icmp .ge 23, 3) := by decide +kernel
theorem dX4_firstOf_13 : decode cX4_firstOf 13 = .ok (.aload_n 0, 1) := by decide +kernel
theorem dX4_firstOf_14 : decode cX4_firstOf 14 = .ok (.getfield 35, 3) := by decide +kernel
theorem dX4_firstOf_17 : decode cX4_firstOf 17 = .ok (.iconst 0, 1) := by decide +kernel
theorem dX4_firstOf_18 : decode cX4_firstOf 18 = .ok (.iload_n 2, 1) := by decide +kernel
theorem dX4_firstOf_19 : decode cX4_firstOf 19 = .ok (.iadd, 1) := by decide +kernel
theorem dX4_firstOf_20 : decode cX4_firstOf 20 = .ok (.iaload, 1) := by decide +kernel
theorem dX4_firstOf_21 : decode cX4_firstOf 21 = .ok (.iload_n 1, 1) := by decide +kernel
theorem dX4_firstOf_22 : decode cX4_firstOf 22 = .ok (.if_icmp .ne 5, 3) := by decide +kernel
theorem dX4_firstOf_25 : decode cX4_firstOf 25 = .ok (.iload_n 2, 1) := by decide +kernel
theorem dX4_firstOf_26 : decode cX4_firstOf 26 = .ok (.ireturn, 1) := by decide +kernel
theorem dX4_firstOf_27 : decode cX4_firstOf 27 = .ok (.iinc 2 1, 3) := by decide +kernel
theorem dX4_firstOf_30 : decode cX4_firstOf 30 = .ok (.goto (-28), 3) := by decide +kernel
theorem dX4_firstOf_33 : decode cX4_firstOf 33 = .ok (.bipush (-9), 2) := by decide +kernel
theorem dX4_firstOf_35 : decode cX4_firstOf 35 = .ok (.ireturn, 1) := by decide +kernel
theorem dX4_fits_0 : decode cX4_fits 0 = .ok (.iconst 1, 1) := by decide +kernel
theorem dX4_fits_1 : decode cX4_fits 1 = .ok (.istore_n 1, 1) := by decide +kernel
theorem dX4_fits_2 : decode cX4_fits 2 = .ok (.iconst 0, 1) := by decide +kernel
theorem dX4_fits_3 : decode cX4_fits 3 = .ok (.istore_n 2, 1) := by decide +kernel
theorem dX4_fits_4 : decode cX4_fits 4 = .ok (.iload_n 2, 1) := by decide +kernel
theorem dX4_fits_5 : decode cX4_fits 5 = .ok (.aload_n 0, 1) := by decide +kernel
theorem dX4_fits_6 : decode cX4_fits 6 = .ok (.getfield 102, 3) := by decide +kernel
theorem dX4_fits_9 : decode cX4_fits 9 = .ok (.if_icmp .ge 50, 3) := by decide +kernel
theorem dX4_fits_12 : decode cX4_fits 12 = .ok (.aload_n 0, 1) := by decide +kernel
theorem dX4_fits_13 : decode cX4_fits 13 = .ok (.aload_n 0, 1) := by decide +kernel
theorem dX4_fits_14 : decode cX4_fits 14 = .ok (.getfield 42, 3) := by decide +kernel
theorem dX4_fits_17 : decode cX4_fits 17 = .ok (.iload_n 2, 1) := by decide +kernel
theorem dX4_fits_18 : decode cX4_fits 18 = .ok (.iaload, 1) := by decide +kernel
theorem dX4_fits_19 : decode cX4_fits 19 = .ok (.invokevirtual 176, 3) := by decide +kernel
theorem dX4_fits_22 : decode cX4_fits 22 = .ok (.istore_n 3, 1) := by decide +kernel
theorem dX4_fits_23 : decode cX4_fits 23 = .ok (.iload_n 1, 1) := by decide +kernel
theorem dX4_fits_24 : decode cX4_fits 24 = .ok (.ifCond .eq 27, 3) := by decide +kernel
theorem dX4_fits_27 : decode cX4_fits 27 = .ok (.iload_n 3, 1) := by decide +kernel
theorem dX4_fits_28 : decode cX4_fits 28 = .ok (.bipush (-9), 2) := by decide +kernel
theorem dX4_fits_30 : decode cX4_fits 30 = .ok (.if_icmp .eq 21, 3) := by decide +kernel
theorem dX4_fits_33 : decode cX4_fits 33 = .ok (.aload_n 0, 1) := by decide +kernel
theorem dX4_fits_34 : decode cX4_fits 34 = .ok (.aload_n 0, 1) := by decide +kernel
theorem dX4_fits_35 : decode cX4_fits 35 = .ok (.getfield 45, 3) := by decide +kernel
theorem dX4_fits_38 : decode cX4_fits 38 = .ok (.iload_n 2, 1) := by decide +kernel
theorem dX4_fits_39 : decode cX4_fits 39 = .ok (.iaload, 1) := by decide +kernel
theorem dX4_fits_40 : decode cX4_fits 40 = .ok (.invokevirtual 176, 3) := by decide +kernel
theorem dX4_fits_43 : decode cX4_fits 43 = .ok (.iload_n 3, 1) := by decide +kernel
theorem dX4_fits_44 : decode cX4_fits 44 = .ok (.if_icmp .le 7, 3) := by decide +kernel
theorem dX4_fits_47 : decode cX4_fits 47 = .ok (.iconst 1, 1) := by decide +kernel
theorem dX4_fits_48 : decode cX4_fits 48 = .ok (.goto 4, 3) := by decide +kernel
theorem dX4_fits_51 : decode cX4_fits 51 = .ok (.iconst 0, 1) := by decide +kernel
theorem dX4_fits_52 : decode cX4_fits 52 = .ok (.istore_n 1, 1) := by decide +kernel
theorem dX4_fits_53 : decode cX4_fits 53 = .ok (.iinc 2 1, 3) := by decide +kernel
theorem dX4_fits_56 : decode cX4_fits 56 = .ok (.goto (-52), 3) := by decide +kernel
theorem dX4_fits_59 : decode cX4_fits 59 = .ok (.iload_n 1, 1) := by decide +kernel
theorem dX4_fits_60 : decode cX4_fits 60 = .ok (.ifCond .eq 7, 3) := by decide +kernel
theorem dX4_fits_63 : decode cX4_fits 63 = .ok (.iconst 1, 1) := by decide +kernel
theorem dX4_fits_64 : decode cX4_fits 64 = .ok (.goto 4, 3) := by decide +kernel
theorem dX4_fits_67 : decode cX4_fits 67 = .ok (.iconst 0, 1) := by decide +kernel
theorem dX4_fits_68 : decode cX4_fits 68 = .ok (.ireturn, 1) := by decide +kernel
theorem dX4_canCome_0 : decode cX4_canCome 0 = .ok (.aload_n 0, 1) := by decide +kernel
theorem dX4_canCome_1 : decode cX4_canCome 1 = .ok (.iload_n 1, 1) := by decide +kernel
theorem dX4_canCome_2 : decode cX4_canCome 2 = .ok (.invokevirtual 120, 3) := by decide +kernel
theorem dX4_canCome_5 : decode cX4_canCome 5 = .ok (.ifCond .ne 22, 3) := by decide +kernel
theorem dX4_canCome_8 : decode cX4_canCome 8 = .ok (.aload_n 0, 1) := by decide +kernel
theorem dX4_canCome_9 : decode cX4_canCome 9 = .ok (.iload_n 1, 1) := by decide +kernel
theorem dX4_canCome_10 : decode cX4_canCome 10 = .ok (.invokevirtual 123, 3) := by decide +kernel
theorem dX4_canCome_13 : decode cX4_canCome 13 = .ok (.ifCond .eq 18, 3) := by decide +kernel
theorem dX4_canCome_16 : decode cX4_canCome 16 = .ok (.aload_n 0, 1) := by decide +kernel
theorem dX4_canCome_17 : decode cX4_canCome 17 = .ok (.getfield 20, 3) := by decide +kernel
theorem dX4_canCome_20 : decode cX4_canCome 20 = .ok (.iload_n 1, 1) := by decide +kernel
theorem dX4_canCome_21 : decode cX4_canCome 21 = .ok (.iaload, 1) := by decide +kernel
theorem dX4_canCome_22 : decode cX4_canCome 22 = .ok (.iload_n 2, 1) := by decide +kernel
theorem dX4_canCome_23 : decode cX4_canCome 23 = .ok (.iand, 1) := by decide +kernel
theorem dX4_canCome_24 : decode cX4_canCome 24 = .ok (.ifCond .eq 7, 3) := by decide +kernel
theorem dX4_canCome_27 : decode cX4_canCome 27 = .ok (.iconst 1, 1) := by decide +kernel
theorem dX4_canCome_28 : decode cX4_canCome 28 = .ok (.goto 4, 3) := by decide +kernel
theorem dX4_canCome_31 : decode cX4_canCome 31 = .ok (.iconst 0, 1) := by decide +kernel
theorem dX4_canCome_32 : decode cX4_canCome 32 = .ok (.istore 4, 2) := by decide +kernel
theorem dX4_canCome_34 : decode cX4_canCome 34 = .ok (.iconst 0, 1) := by decide +kernel
theorem dX4_canCome_35 : decode cX4_canCome 35 = .ok (.istore 5, 2) := by decide +kernel
theorem dX4_canCome_37 : decode cX4_canCome 37 = .ok (.iload 5, 2) := by decide +kernel
theorem dX4_canCome_39 : decode cX4_canCome 39 = .ok (.aload_n 0, 1) := by decide +kernel
theorem dX4_canCome_40 : decode cX4_canCome 40 = .ok (.getfield 102, 3) := by decide +kernel
theorem dX4_canCome_43 : decode cX4_canCome 43 = .ok (.if_icmp .ge 89, 3) := by decide +kernel
theorem dX4_canCome_46 : decode cX4_canCome 46 = .ok (.iload_n 3, 1) := by decide +kernel
theorem dX4_canCome_47 : decode cX4_canCome 47 = .ok (.aload_n 0, 1) := by decide +kernel
theorem dX4_canCome_48 : decode cX4_canCome 48 = .ok (.getfield 42, 3) := by decide +kernel
theorem dX4_canCome_51 : decode cX4_canCome 51 = .ok (.iload 5, 2) := by decide +kernel
theorem dX4_canCome_53 : decode cX4_canCome 53 = .ok (.iaload, 1) := by decide +kernel
theorem dX4_canCome_54 : decode cX4_canCome 54 = .ok (.ishr, 1) := by decide +kernel
theorem dX4_canCome_55 : decode cX4_canCome 55 = .ok (.iconst 1, 1) := by decide +kernel
theorem dX4_canCome_56 : decode cX4_canCome 56 = .ok (.iand, 1) := by decide +kernel
theorem dX4_canCome_57 : decode cX4_canCome 57 = .ok (.iconst 1, 1) := by decide +kernel
theorem dX4_canCome_58 : decode cX4_canCome 58 = .ok (.if_icmp .ne 22, 3) := by decide +kernel
theorem dX4_canCome_61 : decode cX4_canCome 61 = .ok (.iload_n 3, 1) := by decide +kernel
theorem dX4_canCome_62 : decode cX4_canCome 62 = .ok (.aload_n 0, 1) := by decide +kernel
theorem dX4_canCome_63 : decode cX4_canCome 63 = .ok (.getfield 45, 3) := by decide +kernel
theorem dX4_canCome_66 : decode cX4_canCome 66 = .ok (.iload 5, 2) := by decide +kernel
theorem dX4_canCome_68 : decode cX4_canCome 68 = .ok (.iaload, 1) := by decide +kernel
theorem dX4_canCome_69 : decode cX4_canCome 69 = .ok (.ishr, 1) := by decide +kernel
theorem dX4_canCome_70 : decode cX4_canCome 70 = .ok (.iconst 1, 1) := by decide +kernel
theorem dX4_canCome_71 : decode cX4_canCome 71 = .ok (.iand, 1) := by decide +kernel
theorem dX4_canCome_72 : decode cX4_canCome 72 = .ok (.iconst 1, 1) := by decide +kernel
theorem dX4_canCome_73 : decode cX4_canCome 73 = .ok (.if_icmp .ne 7, 3) := by decide +kernel
theorem dX4_canCome_76 : decode cX4_canCome 76 = .ok (.iconst 1, 1) := by decide +kernel
theorem dX4_canCome_77 : decode cX4_canCome 77 = .ok (.goto 4, 3) := by decide +kernel
theorem dX4_canCome_80 : decode cX4_canCome 80 = .ok (.iconst 0, 1) := by decide +kernel
theorem dX4_canCome_81 : decode cX4_canCome 81 = .ok (.istore 6, 2) := by decide +kernel
theorem dX4_canCome_83 : decode cX4_canCome 83 = .ok (.iload 4, 2) := by decide +kernel
theorem dX4_canCome_85 : decode cX4_canCome 85 = .ok (.ifCond .eq 38, 3) := by decide +kernel
theorem dX4_canCome_88 : decode cX4_canCome 88 = .ok (.iload 6, 2) := by decide +kernel
theorem dX4_canCome_90 : decode cX4_canCome 90 = .ok (.ifCond .eq 29, 3) := by decide +kernel
theorem dX4_canCome_93 : decode cX4_canCome 93 = .ok (.aload_n 0, 1) := by decide +kernel
theorem dX4_canCome_94 : decode cX4_canCome 94 = .ok (.getfield 45, 3) := by decide +kernel
theorem dX4_canCome_97 : decode cX4_canCome 97 = .ok (.iload 5, 2) := by decide +kernel
theorem dX4_canCome_99 : decode cX4_canCome 99 = .ok (.iaload, 1) := by decide +kernel
theorem dX4_canCome_100 : decode cX4_canCome 100 = .ok (.iload_n 1, 1) := by decide +kernel
theorem dX4_canCome_101 : decode cX4_canCome 101 = .ok (.if_icmp .ne 18, 3) := by decide +kernel
theorem dX4_canCome_104 : decode cX4_canCome 104 = .ok (.iload_n 2, 1) := by decide +kernel
theorem dX4_canCome_105 : decode cX4_canCome 105 = .ok (.aload_n 0, 1) := by decide +kernel
theorem dX4_canCome_106 : decode cX4_canCome 106 = .ok (.getfield 42, 3) := by decide +kernel
theorem dX4_canCome_109 : decode cX4_canCome 109 = .ok (.iload 5, 2) := by decide +kernel
theorem dX4_canCome_111 : decode cX4_canCome 111 = .ok (.iaload, 1) := by decide +kernel
theorem dX4_canCome_112 : decode cX4_canCome 112 = .ok (.ishr, 1) := by decide +kernel
theorem dX4_canCome_113 : decode cX4_canCome 113 = .ok (.iconst 1, 1) := by decide +kernel
theorem dX4_canCome_114 : decode cX4_canCome 114 = .ok (.iand, 1) := by decide +kernel
theorem dX4_canCome_115 : decode cX4_canCome 115 = .ok (.iconst 1, 1) := by decide +kernel
theorem dX4_canCome_116 : decode cX4_canCome 116 = .ok (.if_icmp .ne 7, 3) := by decide +kernel
theorem dX4_canCome_119 : decode cX4_canCome 119 = .ok (.iconst 1, 1) := by decide +kernel
theorem dX4_canCome_120 : decode cX4_canCome 120 = .ok (.goto 4, 3) := by decide +kernel
theorem dX4_canCome_123 : decode cX4_canCome 123 = .ok (.iconst 0, 1) := by decide +kernel
theorem dX4_canCome_124 : decode cX4_canCome 124 = .ok (.istore 4, 2) := by decide +kernel
theorem dX4_canCome_126 : decode cX4_canCome 126 = .ok (.iinc 5 1, 3) := by decide +kernel
theorem dX4_canCome_129 : decode cX4_canCome 129 = .ok (.goto (-92), 3) := by decide +kernel
theorem dX4_canCome_132 : decode cX4_canCome 132 = .ok (.iload 4, 2) := by decide +kernel
theorem dX4_canCome_134 : decode cX4_canCome 134 = .ok (.ireturn, 1) := by decide +kernel
theorem dX4_orders_0 : decode cX4_orders 0 = .ok (.iload_n 1, 1) := by decide +kernel
theorem dX4_orders_1 : decode cX4_orders 1 = .ok (.iconst 0, 1) := by decide +kernel
theorem dX4_orders_2 : decode cX4_orders 2 = .ok (.iconst 1, 1) := by decide +kernel
theorem dX4_orders_3 : decode cX4_orders 3 = .ok (.aload_n 0, 1) := by decide +kernel
theorem dX4_orders_4 : decode cX4_orders 4 = .ok (.getfield 13, 3) := by decide +kernel
theorem dX4_orders_7 : decode cX4_orders 7 = .ok (.iconst 0, 1) := by decide +kernel
theorem dX4_orders_8 : decode cX4_orders 8 = .ok (.iaload, 1) := by decide +kernel
theorem dX4_orders_9 : decode cX4_orders 9 = .ok (.ishl, 1) := by decide +kernel
theorem dX4_orders_10 : decode cX4_orders 10 = .ok (.iconst 1, 1) := by decide +kernel
theorem dX4_orders_11 : decode cX4_orders 11 = .ok (.isub, 1) := by decide +kernel
theorem dX4_orders_12 : decode cX4_orders 12 = .ok (.invokestatic 57, 3) := by decide +kernel
theorem dX4_orders_15 : decode cX4_orders 15 = .ok (.ifCond .ne 5, 3) := by decide +kernel
theorem dX4_orders_18 : decode cX4_orders 18 = .ok (.iconst (-1), 1) := by decide +kernel
theorem dX4_orders_19 : decode cX4_orders 19 = .ok (.ireturn, 1) := by decide +kernel
theorem dX4_orders_20 : decode cX4_orders 20 = .ok (.aload_n 0, 1) := by decide +kernel
theorem dX4_orders_21 : decode cX4_orders 21 = .ok (.getfield 48, 3) := by decide +kernel
theorem dX4_orders_24 : decode cX4_orders 24 = .ok (.iconst 0, 1) := by decide +kernel
theorem dX4_orders_25 : decode cX4_orders 25 = .ok (.iconst 1, 1) := by decide +kernel
theorem dX4_orders_26 : decode cX4_orders 26 = .ok (.iastore, 1) := by decide +kernel
theorem dX4_orders_27 : decode cX4_orders 27 = .ok (.iconst 1, 1) := by decide +kernel
theorem dX4_orders_28 : decode cX4_orders 28 = .ok (.istore_n 2, 1) := by decide +kernel
theorem dX4_orders_29 : decode cX4_orders 29 = .ok (.iload_n 2, 1) := by decide +kernel
theorem dX4_orders_30 : decode cX4_orders 30 = .ok (.iload_n 1, 1) := by decide +kernel
theorem dX4_orders_31 : decode cX4_orders 31 = .ok (.if_icmp .gt 104, 3) := by decide +kernel
theorem dX4_orders_34 : decode cX4_orders 34 = .ok (.aload_n 0, 1) := by decide +kernel
theorem dX4_orders_35 : decode cX4_orders 35 = .ok (.getfield 48, 3) := by decide +kernel
theorem dX4_orders_38 : decode cX4_orders 38 = .ok (.iload_n 2, 1) := by decide +kernel
theorem dX4_orders_39 : decode cX4_orders 39 = .ok (.iconst 0, 1) := by decide +kernel
theorem dX4_orders_40 : decode cX4_orders 40 = .ok (.iastore, 1) := by decide +kernel
theorem dX4_orders_41 : decode cX4_orders 41 = .ok (.iconst 0, 1) := by decide +kernel
theorem dX4_orders_42 : decode cX4_orders 42 = .ok (.istore_n 3, 1) := by decide +kernel
theorem dX4_orders_43 : decode cX4_orders 43 = .ok (.iload_n 3, 1) := by decide +kernel
theorem dX4_orders_44 : decode cX4_orders 44 = .ok (.aload_n 0, 1) := by decide +kernel
theorem dX4_orders_45 : decode cX4_orders 45 = .ok (.getfield 13, 3) := by decide +kernel
theorem dX4_orders_48 : decode cX4_orders 48 = .ok (.iconst 0, 1) := by decide +kernel
theorem dX4_orders_49 : decode cX4_orders 49 = .ok (.iaload, 1) := by decide +kernel
theorem dX4_orders_50 : decode cX4_orders 50 = .ok (.if_icmp .ge 79, 3) := by decide +kernel
theorem dX4_orders_53 : decode cX4_orders 53 = .ok (.iload_n 2, 1) := by decide +kernel
theorem dX4_orders_54 : decode cX4_orders 54 = .ok (.iload_n 1, 1) := by decide +kernel
theorem dX4_orders_55 : decode cX4_orders 55 = .ok (.iconst (-1), 1) := by decide +kernel
theorem dX4_orders_56 : decode cX4_orders 56 = .ok (.ixor, 1) := by decide +kernel
theorem dX4_orders_57 : decode cX4_orders 57 = .ok (.iand, 1) := by decide +kernel
theorem dX4_orders_58 : decode cX4_orders 58 = .ok (.ifCond .ne 32, 3) := by decide +kernel
theorem dX4_orders_61 : decode cX4_orders 61 = .ok (.iload_n 2, 1) := by decide +kernel
theorem dX4_orders_62 : decode cX4_orders 62 = .ok (.iload_n 3, 1) := by decide +kernel
theorem dX4_orders_63 : decode cX4_orders 63 = .ok (.ishr, 1) := by decide +kernel
theorem dX4_orders_64 : decode cX4_orders 64 = .ok (.iconst 1, 1) := by decide +kernel
theorem dX4_orders_65 : decode cX4_orders 65 = .ok (.iand, 1) := by decide +kernel
theorem dX4_orders_66 : decode cX4_orders 66 = .ok (.iconst 1, 1) := by decide +kernel
theorem dX4_orders_67 : decode cX4_orders 67 = .ok (.if_icmp .ne 23, 3) := by decide +kernel
theorem dX4_orders_70 : decode cX4_orders 70 = .ok (.aload_n 0, 1) := by decide +kernel
theorem dX4_orders_71 : decode cX4_orders 71 = .ok (.iload_n 3, 1) := by decide +kernel
theorem dX4_orders_72 : decode cX4_orders 72 = .ok (.iload_n 2, 1) := by decide +kernel
theorem dX4_orders_73 : decode cX4_orders 73 = .ok (.iconst 1, 1) := by decide +kernel
theorem dX4_orders_74 : decode cX4_orders 74 = .ok (.iload_n 3, 1) := by decide +kernel
theorem dX4_orders_75 : decode cX4_orders 75 = .ok (.ishl, 1) := by decide +kernel
theorem dX4_orders_76 : decode cX4_orders 76 = .ok (.iconst (-1), 1) := by decide +kernel
theorem dX4_orders_77 : decode cX4_orders 77 = .ok (.ixor, 1) := by decide +kernel
theorem dX4_orders_78 : decode cX4_orders 78 = .ok (.iand, 1) := by decide +kernel
theorem dX4_orders_79 : decode cX4_orders 79 = .ok (.iload_n 1, 1) := by decide +kernel
theorem dX4_orders_80 : decode cX4_orders 80 = .ok (.invokevirtual 179, 3) := by decide +kernel
theorem dX4_orders_83 : decode cX4_orders 83 = .ok (.ifCond .eq 7, 3) := by decide +kernel
theorem dX4_orders_86 : decode cX4_orders 86 = .ok (.iconst 1, 1) := by decide +kernel
theorem dX4_orders_87 : decode cX4_orders 87 = .ok (.goto 4, 3) := by decide +kernel
theorem dX4_orders_90 : decode cX4_orders 90 = .ok (.iconst 0, 1) := by decide +kernel
theorem dX4_orders_91 : decode cX4_orders 91 = .ok (.istore 4, 2) := by decide +kernel
theorem dX4_orders_93 : decode cX4_orders 93 = .ok (.aload_n 0, 1) := by decide +kernel
theorem dX4_orders_94 : decode cX4_orders 94 = .ok (.getfield 48, 3) := by decide +kernel
theorem dX4_orders_97 : decode cX4_orders 97 = .ok (.iload_n 2, 1) := by decide +kernel
theorem dX4_orders_98 : decode cX4_orders 98 = .ok (.dup2, 1) := by decide +kernel
theorem dX4_orders_99 : decode cX4_orders 99 = .ok (.iaload, 1) := by decide +kernel
theorem dX4_orders_100 : decode cX4_orders 100 = .ok (.iload 4, 2) := by decide +kernel
theorem dX4_orders_102 : decode cX4_orders 102 = .ok (.ifCond .eq 18, 3) := by decide +kernel
theorem dX4_orders_105 : decode cX4_orders 105 = .ok (.aload_n 0, 1) := by decide +kernel
theorem dX4_orders_106 : decode cX4_orders 106 = .ok (.getfield 48, 3) := by decide +kernel
theorem dX4_orders_109 : decode cX4_orders 109 = .ok (.iload_n 2, 1) := by decide +kernel
theorem dX4_orders_110 : decode cX4_orders 110 = .ok (.iconst 1, 1) := by decide +kernel
theorem dX4_orders_111 : decode cX4_orders 111 = .ok (.iload_n 3, 1) := by decide +kernel
theorem dX4_orders_112 : decode cX4_orders 112 = .ok (.ishl, 1) := by decide +kernel
theorem dX4_orders_113 : decode cX4_orders 113 = .ok (.iconst (-1), 1) := by decide +kernel
theorem dX4_orders_114 : decode cX4_orders 114 = .ok (.ixor, 1) := by decide +kernel
theorem dX4_orders_115 : decode cX4_orders 115 = .ok (.iand, 1) := by decide +kernel
theorem dX4_orders_116 : decode cX4_orders 116 = .ok (.iaload, 1) := by decide +kernel
theorem dX4_orders_117 : decode cX4_orders 117 = .ok (.goto 4, 3) := by decide +kernel
theorem dX4_orders_120 : decode cX4_orders 120 = .ok (.iconst 0, 1) := by decide +kernel
theorem dX4_orders_121 : decode cX4_orders 121 = .ok (.iadd, 1) := by decide +kernel
theorem dX4_orders_122 : decode cX4_orders 122 = .ok (.iastore, 1) := by decide +kernel
theorem dX4_orders_123 : decode cX4_orders 123 = .ok (.iinc 3 1, 3) := by decide +kernel
theorem dX4_orders_126 : decode cX4_orders 126 = .ok (.goto (-83), 3) := by decide +kernel
theorem dX4_orders_129 : decode cX4_orders 129 = .ok (.iinc 2 1, 3) := by decide +kernel
theorem dX4_orders_132 : decode cX4_orders 132 = .ok (.goto (-103), 3) := by decide +kernel
theorem dX4_orders_135 : decode cX4_orders 135 = .ok (.aload_n 0, 1) := by decide +kernel
theorem dX4_orders_136 : decode cX4_orders 136 = .ok (.getfield 48, 3) := by decide +kernel
theorem dX4_orders_139 : decode cX4_orders 139 = .ok (.iload_n 1, 1) := by decide +kernel
theorem dX4_orders_140 : decode cX4_orders 140 = .ok (.iaload, 1) := by decide +kernel
theorem dX4_orders_141 : decode cX4_orders 141 = .ok (.ireturn, 1) := by decide +kernel
theorem dX4_mark_0 : decode cX4_mark 0 = .ok (.iload_n 1, 1) := by decide +kernel
theorem dX4_mark_1 : decode cX4_mark 1 = .ok (.iconst 0, 1) := by decide +kernel
theorem dX4_mark_2 : decode cX4_mark 2 = .ok (.iconst 5, 1) := by decide +kernel
theorem dX4_mark_3 : decode cX4_mark 3 = .ok (.invokestatic 57, 3) := by decide +kernel
theorem dX4_mark_6 : decode cX4_mark 6 = .ok (.ifCond .eq 11, 3) := by decide +kernel
theorem dX4_mark_9 : decode cX4_mark 9 = .ok (.aload_n 0, 1) := by decide +kernel
theorem dX4_mark_10 : decode cX4_mark 10 = .ok (.iload_n 2, 1) := by decide +kernel
theorem dX4_mark_11 : decode cX4_mark 11 = .ok (.invokevirtual 117, 3) := by decide +kernel
theorem dX4_mark_14 : decode cX4_mark 14 = .ok (.ifCond .ne 6, 3) := by decide +kernel
theorem dX4_mark_17 : decode cX4_mark 17 = .ok (.ldc 182, 2) := by decide +kernel
theorem dX4_mark_19 : decode cX4_mark 19 = .ok (.ireturn, 1) := by decide +kernel
theorem dX4_mark_20 : decode cX4_mark 20 = .ok (.aload_n 0, 1) := by decide +kernel
theorem dX4_mark_21 : decode cX4_mark 21 = .ok (.getfield 20, 3) := by decide +kernel
theorem dX4_mark_24 : decode cX4_mark 24 = .ok (.iload_n 2, 1) := by decide +kernel
theorem dX4_mark_25 : decode cX4_mark 25 = .ok (.iaload, 1) := by decide +kernel
theorem dX4_mark_26 : decode cX4_mark 26 = .ok (.invokestatic 170, 3) := by decide +kernel
theorem dX4_mark_29 : decode cX4_mark 29 = .ok (.istore_n 3, 1) := by decide +kernel
theorem dX4_mark_30 : decode cX4_mark 30 = .ok (.aload_n 0, 1) := by decide +kernel
theorem dX4_mark_31 : decode cX4_mark 31 = .ok (.getfield 17, 3) := by decide +kernel
theorem dX4_mark_34 : decode cX4_mark 34 = .ok (.iload_n 2, 1) := by decide +kernel
theorem dX4_mark_35 : decode cX4_mark 35 = .ok (.iaload, 1) := by decide +kernel
theorem dX4_mark_36 : decode cX4_mark 36 = .ok (.aload_n 0, 1) := by decide +kernel
theorem dX4_mark_37 : decode cX4_mark 37 = .ok (.iload_n 2, 1) := by decide +kernel
theorem dX4_mark_38 : decode cX4_mark 38 = .ok (.invokevirtual 127, 3) := by decide +kernel
theorem dX4_mark_41 : decode cX4_mark 41 = .ok (.isub, 1) := by decide +kernel
theorem dX4_mark_42 : decode cX4_mark 42 = .ok (.istore 4, 2) := by decide +kernel
theorem dX4_mark_44 : decode cX4_mark 44 = .ok (.iload_n 1, 1) := by decide +kernel
theorem dX4_mark_45 : decode cX4_mark 45 = .ok (.tableswitch 135 0 4 #[35, 52, 73, 88, 111], 35) := by decide +kernel
theorem dX4_mark_80 : decode cX4_mark 80 = .ok (.aload_n 0, 1) := by decide +kernel
theorem dX4_mark_81 : decode cX4_mark 81 = .ok (.dup, 1) := by decide +kernel
theorem dX4_mark_82 : decode cX4_mark 82 = .ok (.getfield 183, 3) := by decide +kernel
theorem dX4_mark_85 : decode cX4_mark 85 = .ok (.lconst 1, 1) := by decide +kernel
theorem dX4_mark_86 : decode cX4_mark 86 = .ok (.ladd, 1) := by decide +kernel
theorem dX4_mark_87 : decode cX4_mark 87 = .ok (.putfield 183, 3) := by decide +kernel
theorem dX4_mark_90 : decode cX4_mark 90 = .ok (.aload_n 0, 1) := by decide +kernel
theorem dX4_mark_91 : decode cX4_mark 91 = .ok (.getfield 17, 3) := by decide +kernel
theorem dX4_mark_94 : decode cX4_mark 94 = .ok (.iload_n 2, 1) := by decide +kernel
theorem dX4_mark_95 : decode cX4_mark 95 = .ok (.iaload, 1) := by decide +kernel
theorem dX4_mark_96 : decode cX4_mark 96 = .ok (.ireturn, 1) := by decide +kernel
theorem dX4_mark_97 : decode cX4_mark 97 = .ok (.aload_n 0, 1) := by decide +kernel
theorem dX4_mark_98 : decode cX4_mark 98 = .ok (.dup, 1) := by decide +kernel
theorem dX4_mark_99 : decode cX4_mark 99 = .ok (.getfield 183, 3) := by decide +kernel
theorem dX4_mark_102 : decode cX4_mark 102 = .ok (.ldc2_w 187, 3) := by decide +kernel
theorem dX4_mark_105 : decode cX4_mark 105 = .ok (.ladd, 1) := by decide +kernel
theorem dX4_mark_106 : decode cX4_mark 106 = .ok (.putfield 183, 3) := by decide +kernel
theorem dX4_mark_109 : decode cX4_mark 109 = .ok (.aload_n 0, 1) := by decide +kernel
theorem dX4_mark_110 : decode cX4_mark 110 = .ok (.getfield 17, 3) := by decide +kernel
theorem dX4_mark_113 : decode cX4_mark 113 = .ok (.iload_n 2, 1) := by decide +kernel
theorem dX4_mark_114 : decode cX4_mark 114 = .ok (.iaload, 1) := by decide +kernel
theorem dX4_mark_115 : decode cX4_mark 115 = .ok (.iload_n 3, 1) := by decide +kernel
theorem dX4_mark_116 : decode cX4_mark 116 = .ok (.iadd, 1) := by decide +kernel
theorem dX4_mark_117 : decode cX4_mark 117 = .ok (.ireturn, 1) := by decide +kernel
theorem dX4_mark_118 : decode cX4_mark 118 = .ok (.aload_n 0, 1) := by decide +kernel
theorem dX4_mark_119 : decode cX4_mark 119 = .ok (.dup, 1) := by decide +kernel
theorem dX4_mark_120 : decode cX4_mark 120 = .ok (.getfield 183, 3) := by decide +kernel
theorem dX4_mark_123 : decode cX4_mark 123 = .ok (.ldc2_w 189, 3) := by decide +kernel
theorem dX4_mark_126 : decode cX4_mark 126 = .ok (.ladd, 1) := by decide +kernel
theorem dX4_mark_127 : decode cX4_mark 127 = .ok (.putfield 183, 3) := by decide +kernel
theorem dX4_mark_130 : decode cX4_mark 130 = .ok (.iload 4, 2) := by decide +kernel
theorem dX4_mark_132 : decode cX4_mark 132 = .ok (.ireturn, 1) := by decide +kernel
theorem dX4_mark_133 : decode cX4_mark 133 = .ok (.aload_n 0, 1) := by decide +kernel
theorem dX4_mark_134 : decode cX4_mark 134 = .ok (.dup, 1) := by decide +kernel
theorem dX4_mark_135 : decode cX4_mark 135 = .ok (.getfield 183, 3) := by decide +kernel
theorem dX4_mark_138 : decode cX4_mark 138 = .ok (.ldc2_w 191, 3) := by decide +kernel
theorem dX4_mark_141 : decode cX4_mark 141 = .ok (.ladd, 1) := by decide +kernel
theorem dX4_mark_142 : decode cX4_mark 142 = .ok (.putfield 183, 3) := by decide +kernel
theorem dX4_mark_145 : decode cX4_mark 145 = .ok (.iconst 2, 1) := by decide +kernel
theorem dX4_mark_146 : decode cX4_mark 146 = .ok (.aload_n 0, 1) := by decide +kernel
theorem dX4_mark_147 : decode cX4_mark 147 = .ok (.getfield 17, 3) := by decide +kernel
theorem dX4_mark_150 : decode cX4_mark 150 = .ok (.iload_n 2, 1) := by decide +kernel
theorem dX4_mark_151 : decode cX4_mark 151 = .ok (.iaload, 1) := by decide +kernel
theorem dX4_mark_152 : decode cX4_mark 152 = .ok (.iload_n 3, 1) := by decide +kernel
theorem dX4_mark_153 : decode cX4_mark 153 = .ok (.iadd, 1) := by decide +kernel
theorem dX4_mark_154 : decode cX4_mark 154 = .ok (.imul, 1) := by decide +kernel
theorem dX4_mark_155 : decode cX4_mark 155 = .ok (.ireturn, 1) := by decide +kernel
theorem dX4_mark_156 : decode cX4_mark 156 = .ok (.aload_n 0, 1) := by decide +kernel
theorem dX4_mark_157 : decode cX4_mark 157 = .ok (.dup, 1) := by decide +kernel
theorem dX4_mark_158 : decode cX4_mark 158 = .ok (.getfield 183, 3) := by decide +kernel
theorem dX4_mark_161 : decode cX4_mark 161 = .ok (.ldc2_w 193, 3) := by decide +kernel
theorem dX4_mark_164 : decode cX4_mark 164 = .ok (.ladd, 1) := by decide +kernel
theorem dX4_mark_165 : decode cX4_mark 165 = .ok (.putfield 183, 3) := by decide +kernel
theorem dX4_mark_168 : decode cX4_mark 168 = .ok (.iload 4, 2) := by decide +kernel
theorem dX4_mark_170 : decode cX4_mark 170 = .ok (.aload_n 0, 1) := by decide +kernel
theorem dX4_mark_171 : decode cX4_mark 171 = .ok (.iload_n 2, 1) := by decide +kernel
theorem dX4_mark_172 : decode cX4_mark 172 = .ok (.invokevirtual 123, 3) := by decide +kernel
theorem dX4_mark_175 : decode cX4_mark 175 = .ok (.invokestatic 170, 3) := by decide +kernel
theorem dX4_mark_178 : decode cX4_mark 178 = .ok (.iadd, 1) := by decide +kernel
theorem dX4_mark_179 : decode cX4_mark 179 = .ok (.ireturn, 1) := by decide +kernel
theorem dX4_mark_180 : decode cX4_mark 180 = .ok (.aload_n 0, 1) := by decide +kernel
theorem dX4_mark_181 : decode cX4_mark 181 = .ok (.dup, 1) := by decide +kernel
theorem dX4_mark_182 : decode cX4_mark 182 = .ok (.getfield 183, 3) := by decide +kernel
theorem dX4_mark_185 : decode cX4_mark 185 = .ok (.ldc2_w 195, 3) := by decide +kernel
theorem dX4_mark_188 : decode cX4_mark 188 = .ok (.ladd, 1) := by decide +kernel
theorem dX4_mark_189 : decode cX4_mark 189 = .ok (.putfield 183, 3) := by decide +kernel
theorem dX4_mark_192 : decode cX4_mark 192 = .ok (.aload_n 0, 1) := by decide +kernel
theorem dX4_mark_193 : decode cX4_mark 193 = .ok (.getfield 17, 3) := by decide +kernel
theorem dX4_mark_196 : decode cX4_mark 196 = .ok (.iload_n 2, 1) := by decide +kernel
theorem dX4_mark_197 : decode cX4_mark 197 = .ok (.iaload, 1) := by decide +kernel
theorem dX4_mark_198 : decode cX4_mark 198 = .ok (.aload_n 0, 1) := by decide +kernel
theorem dX4_mark_199 : decode cX4_mark 199 = .ok (.getfield 35, 3) := by decide +kernel
theorem dX4_mark_202 : decode cX4_mark 202 = .ok (.bipush 121, 2) := by decide +kernel
theorem dX4_mark_204 : decode cX4_mark 204 = .ok (.iaload, 1) := by decide +kernel
theorem dX4_mark_205 : decode cX4_mark 205 = .ok (.iadd, 1) := by decide +kernel
theorem dX4_mark_206 : decode cX4_mark 206 = .ok (.ireturn, 1) := by decide +kernel
theorem dX4_keep_0 : decode cX4_keep 0 = .ok (.iload_n 1, 1) := by decide +kernel
theorem dX4_keep_1 : decode cX4_keep 1 = .ok (.iconst 0, 1) := by decide +kernel
theorem dX4_keep_2 : decode cX4_keep 2 = .ok (.iconst 1, 1) := by decide +kernel
theorem dX4_keep_3 : decode cX4_keep 3 = .ok (.invokestatic 57, 3) := by decide +kernel
theorem dX4_keep_6 : decode cX4_keep 6 = .ok (.ifCond .ne 5, 3) := by decide +kernel
theorem dX4_keep_9 : decode cX4_keep 9 = .ok (.iconst (-1), 1) := by decide +kernel
theorem dX4_keep_10 : decode cX4_keep 10 = .ok (.ireturn, 1) := by decide +kernel
theorem dX4_keep_11 : decode cX4_keep 11 = .ok (.iconst 0, 1) := by decide +kernel
theorem dX4_keep_12 : decode cX4_keep 12 = .ok (.istore_n 2, 1) := by decide +kernel
theorem dX4_keep_13 : decode cX4_keep 13 = .ok (.iload_n 2, 1) := by decide +kernel
theorem dX4_keep_14 : decode cX4_keep 14 = .ok (.sipush 147, 3) := by decide +kernel
theorem dX4_keep_17 : decode cX4_keep 17 = .ok (.if_icmp .ge 29, 3) := by decide +kernel
theorem dX4_keep_20 : decode cX4_keep 20 = .ok (.aload_n 0, 1) := by decide +kernel
theorem dX4_keep_21 : decode cX4_keep 21 = .ok (.getfield 35, 3) := by decide +kernel
theorem dX4_keep_24 : decode cX4_keep 24 = .ok (.sipush 147, 3) := by decide +kernel
theorem dX4_keep_27 : decode cX4_keep 27 = .ok (.iconst 1, 1) := by decide +kernel
theorem dX4_keep_28 : decode cX4_keep 28 = .ok (.iload_n 1, 1) := by decide +kernel
theorem dX4_keep_29 : decode cX4_keep 29 = .ok (.iadd, 1) := by decide +kernel
theorem dX4_keep_30 : decode cX4_keep 30 = .ok (.imul, 1) := by decide +kernel
theorem dX4_keep_31 : decode cX4_keep 31 = .ok (.iload_n 2, 1) := by decide +kernel
theorem dX4_keep_32 : decode cX4_keep 32 = .ok (.iadd, 1) := by decide +kernel
theorem dX4_keep_33 : decode cX4_keep 33 = .ok (.aload_n 0, 1) := by decide +kernel
theorem dX4_keep_34 : decode cX4_keep 34 = .ok (.getfield 35, 3) := by decide +kernel
theorem dX4_keep_37 : decode cX4_keep 37 = .ok (.iload_n 2, 1) := by decide +kernel
theorem dX4_keep_38 : decode cX4_keep 38 = .ok (.iaload, 1) := by decide +kernel
theorem dX4_keep_39 : decode cX4_keep 39 = .ok (.iastore, 1) := by decide +kernel
theorem dX4_keep_40 : decode cX4_keep 40 = .ok (.iinc 2 1, 3) := by decide +kernel
theorem dX4_keep_43 : decode cX4_keep 43 = .ok (.goto (-30), 3) := by decide +kernel
theorem dX4_keep_46 : decode cX4_keep 46 = .ok (.aload_n 0, 1) := by decide +kernel
theorem dX4_keep_47 : decode cX4_keep 47 = .ok (.getfield 38, 3) := by decide +kernel
theorem dX4_keep_50 : decode cX4_keep 50 = .ok (.iload_n 1, 1) := by decide +kernel
theorem dX4_keep_51 : decode cX4_keep 51 = .ok (.iconst 1, 1) := by decide +kernel
theorem dX4_keep_52 : decode cX4_keep 52 = .ok (.bastore, 1) := by decide +kernel
theorem dX4_keep_53 : decode cX4_keep 53 = .ok (.aload_n 0, 1) := by decide +kernel
theorem dX4_keep_54 : decode cX4_keep 54 = .ok (.getfield 35, 3) := by decide +kernel
theorem dX4_keep_57 : decode cX4_keep 57 = .ok (.bipush 121, 2) := by decide +kernel
theorem dX4_keep_59 : decode cX4_keep 59 = .ok (.iaload, 1) := by decide +kernel
theorem dX4_keep_60 : decode cX4_keep 60 = .ok (.ireturn, 1) := by decide +kernel
theorem dX4_back_0 : decode cX4_back 0 = .ok (.iload_n 1, 1) := by decide +kernel
theorem dX4_back_1 : decode cX4_back 1 = .ok (.iconst 0, 1) := by decide +kernel
theorem dX4_back_2 : decode cX4_back 2 = .ok (.iconst 1, 1) := by decide +kernel
theorem dX4_back_3 : decode cX4_back 3 = .ok (.invokestatic 57, 3) := by decide +kernel
theorem dX4_back_6 : decode cX4_back 6 = .ok (.ifCond .ne 5, 3) := by decide +kernel
theorem dX4_back_9 : decode cX4_back 9 = .ok (.iconst (-1), 1) := by decide +kernel
theorem dX4_back_10 : decode cX4_back 10 = .ok (.ireturn, 1) := by decide +kernel
theorem dX4_back_11 : decode cX4_back 11 = .ok (.aload_n 0, 1) := by decide +kernel
theorem dX4_back_12 : decode cX4_back 12 = .ok (.getfield 38, 3) := by decide +kernel
theorem dX4_back_15 : decode cX4_back 15 = .ok (.iload_n 1, 1) := by decide +kernel
theorem dX4_back_16 : decode cX4_back 16 = .ok (.baload, 1) := by decide +kernel
theorem dX4_back_17 : decode cX4_back 17 = .ok (.ifCond .ne 6, 3) := by decide +kernel
theorem dX4_back_20 : decode cX4_back 20 = .ok (.bipush (-2), 2) := by decide +kernel
theorem dX4_back_22 : decode cX4_back 22 = .ok (.ireturn, 1) := by decide +kernel
theorem dX4_back_23 : decode cX4_back 23 = .ok (.iconst 0, 1) := by decide +kernel
theorem dX4_back_24 : decode cX4_back 24 = .ok (.istore_n 2, 1) := by decide +kernel
theorem dX4_back_25 : decode cX4_back 25 = .ok (.iload_n 2, 1) := by decide +kernel
theorem dX4_back_26 : decode cX4_back 26 = .ok (.sipush 147, 3) := by decide +kernel
theorem dX4_back_29 : decode cX4_back 29 = .ok (.if_icmp .ge 29, 3) := by decide +kernel
theorem dX4_back_32 : decode cX4_back 32 = .ok (.aload_n 0, 1) := by decide +kernel
theorem dX4_back_33 : decode cX4_back 33 = .ok (.getfield 35, 3) := by decide +kernel
theorem dX4_back_36 : decode cX4_back 36 = .ok (.iload_n 2, 1) := by decide +kernel
theorem dX4_back_37 : decode cX4_back 37 = .ok (.aload_n 0, 1) := by decide +kernel
theorem dX4_back_38 : decode cX4_back 38 = .ok (.getfield 35, 3) := by decide +kernel
theorem dX4_back_41 : decode cX4_back 41 = .ok (.sipush 147, 3) := by decide +kernel
theorem dX4_back_44 : decode cX4_back 44 = .ok (.iconst 1, 1) := by decide +kernel
theorem dX4_back_45 : decode cX4_back 45 = .ok (.iload_n 1, 1) := by decide +kernel
theorem dX4_back_46 : decode cX4_back 46 = .ok (.iadd, 1) := by decide +kernel
theorem dX4_back_47 : decode cX4_back 47 = .ok (.imul, 1) := by decide +kernel
theorem dX4_back_48 : decode cX4_back 48 = .ok (.iload_n 2, 1) := by decide +kernel
theorem dX4_back_49 : decode cX4_back 49 = .ok (.iadd, 1) := by decide +kernel
theorem dX4_back_50 : decode cX4_back 50 = .ok (.iaload, 1) := by decide +kernel
theorem dX4_back_51 : decode cX4_back 51 = .ok (.iastore, 1) := by decide +kernel
theorem dX4_back_52 : decode cX4_back 52 = .ok (.iinc 2 1, 3) := by decide +kernel
theorem dX4_back_55 : decode cX4_back 55 = .ok (.goto (-30), 3) := by decide +kernel
theorem dX4_back_58 : decode cX4_back 58 = .ok (.aload_n 0, 1) := by decide +kernel
theorem dX4_back_59 : decode cX4_back 59 = .ok (.getfield 35, 3) := by decide +kernel
theorem dX4_back_62 : decode cX4_back 62 = .ok (.bipush 121, 2) := by decide +kernel
theorem dX4_back_64 : decode cX4_back 64 = .ok (.iaload, 1) := by decide +kernel
theorem dX4_back_65 : decode cX4_back 65 = .ok (.ireturn, 1) := by decide +kernel
theorem dX4_count_0 : decode cX4_count 0 = .ok (.iload_n 1, 1) := by decide +kernel
theorem dX4_count_1 : decode cX4_count 1 = .ok (.tableswitch 78 0 5 #[39, 46, 53, 60, 65, 73], 39) := by decide +kernel
theorem dX4_count_40 : decode cX4_count 40 = .ok (.aload_n 0, 1) := by decide +kernel
theorem dX4_count_41 : decode cX4_count 41 = .ok (.getfield 13, 3) := by decide +kernel
theorem dX4_count_44 : decode cX4_count 44 = .ok (.iconst 0, 1) := by decide +kernel
theorem dX4_count_45 : decode cX4_count 45 = .ok (.iaload, 1) := by decide +kernel
theorem dX4_count_46 : decode cX4_count 46 = .ok (.ireturn, 1) := by decide +kernel
theorem dX4_count_47 : decode cX4_count 47 = .ok (.aload_n 0, 1) := by decide +kernel
theorem dX4_count_48 : decode cX4_count 48 = .ok (.getfield 26, 3) := by decide +kernel
theorem dX4_count_51 : decode cX4_count 51 = .ok (.iconst 0, 1) := by decide +kernel
theorem dX4_count_52 : decode cX4_count 52 = .ok (.iaload, 1) := by decide +kernel
theorem dX4_count_53 : decode cX4_count 53 = .ok (.ireturn, 1) := by decide +kernel
theorem dX4_count_54 : decode cX4_count 54 = .ok (.aload_n 0, 1) := by decide +kernel
theorem dX4_count_55 : decode cX4_count 55 = .ok (.getfield 32, 3) := by decide +kernel
theorem dX4_count_58 : decode cX4_count 58 = .ok (.iconst 0, 1) := by decide +kernel
theorem dX4_count_59 : decode cX4_count 59 = .ok (.iaload, 1) := by decide +kernel
theorem dX4_count_60 : decode cX4_count 60 = .ok (.ireturn, 1) := by decide +kernel
theorem dX4_count_61 : decode cX4_count 61 = .ok (.aload_n 0, 1) := by decide +kernel
theorem dX4_count_62 : decode cX4_count 62 = .ok (.getfield 102, 3) := by decide +kernel
theorem dX4_count_65 : decode cX4_count 65 = .ok (.ireturn, 1) := by decide +kernel
theorem dX4_count_66 : decode cX4_count 66 = .ok (.aload_n 0, 1) := by decide +kernel
theorem dX4_count_67 : decode cX4_count 67 = .ok (.getfield 35, 3) := by decide +kernel
theorem dX4_count_70 : decode cX4_count 70 = .ok (.bipush 122, 2) := by decide +kernel
theorem dX4_count_72 : decode cX4_count 72 = .ok (.iaload, 1) := by decide +kernel
theorem dX4_count_73 : decode cX4_count 73 = .ok (.ireturn, 1) := by decide +kernel
theorem dX4_count_74 : decode cX4_count 74 = .ok (.aload_n 0, 1) := by decide +kernel
theorem dX4_count_75 : decode cX4_count 75 = .ok (.getfield 61, 3) := by decide +kernel
theorem dX4_count_78 : decode cX4_count 78 = .ok (.ireturn, 1) := by decide +kernel
theorem dX4_count_79 : decode cX4_count 79 = .ok (.iconst (-1), 1) := by decide +kernel
theorem dX4_count_80 : decode cX4_count 80 = .ok (.ireturn, 1) := by decide +kernel
theorem dX4_trace_0 : decode cX4_trace 0 = .ok (.aload_n 0, 1) := by decide +kernel
theorem dX4_trace_1 : decode cX4_trace 1 = .ok (.getfield 183, 3) := by decide +kernel
theorem dX4_trace_4 : decode cX4_trace 4 = .ok (.lreturn, 1) := by decide +kernel
