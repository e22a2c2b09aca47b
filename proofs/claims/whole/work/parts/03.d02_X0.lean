theorem dX0_init_0 : decode cX0_init 0 = .ok (.aload_n 0, 1) := by decide +kernel
theorem dX0_init_1 : decode cX0_init 1 = .ok (.invokespecial 3, 3) := by decide +kernel
theorem dX0_init_4 : decode cX0_init 4 = .ok (.aload_n 0, 1) := by decide +kernel
theorem dX0_init_5 : decode cX0_init 5 = .ok (.bipush 8, 2) := by decide +kernel
theorem dX0_init_7 : decode cX0_init 7 = .ok (.newarray .int, 2) := by decide +kernel
theorem dX0_init_9 : decode cX0_init 9 = .ok (.putfield 9, 3) := by decide +kernel
theorem dX0_init_12 : decode cX0_init 12 = .ok (.aload_n 0, 1) := by decide +kernel
theorem dX0_init_13 : decode cX0_init 13 = .ok (.bipush 8, 2) := by decide +kernel
theorem dX0_init_15 : decode cX0_init 15 = .ok (.newarray .int, 2) := by decide +kernel
theorem dX0_init_17 : decode cX0_init 17 = .ok (.putfield 15, 3) := by decide +kernel
theorem dX0_init_20 : decode cX0_init 20 = .ok (.aload_n 0, 1) := by decide +kernel
theorem dX0_init_21 : decode cX0_init 21 = .ok (.iconst 5, 1) := by decide +kernel
theorem dX0_init_22 : decode cX0_init 22 = .ok (.newarray .int, 2) := by decide +kernel
theorem dX0_init_24 : decode cX0_init 24 = .ok (.putfield 18, 3) := by decide +kernel
theorem dX0_init_27 : decode cX0_init 27 = .ok (.aload_n 0, 1) := by decide +kernel
theorem dX0_init_28 : decode cX0_init 28 = .ok (.iconst 3, 1) := by decide +kernel
theorem dX0_init_29 : decode cX0_init 29 = .ok (.putfield 21, 3) := by decide +kernel
theorem dX0_init_32 : decode cX0_init 32 = .ok (.return_, 1) := by decide +kernel
theorem dX0_readFrom_0 : decode cX0_readFrom 0 = .ok (.aload_n 0, 1) := by decide +kernel
theorem dX0_readFrom_1 : decode cX0_readFrom 1 = .ok (.iconst 0, 1) := by decide +kernel
theorem dX0_readFrom_2 : decode cX0_readFrom 2 = .ok (.putfield 25, 3) := by decide +kernel
theorem dX0_readFrom_5 : decode cX0_readFrom 5 = .ok (.aload_n 0, 1) := by decide +kernel
theorem dX0_readFrom_6 : decode cX0_readFrom 6 = .ok (.iconst 0, 1) := by decide +kernel
theorem dX0_readFrom_7 : decode cX0_readFrom 7 = .ok (.putfield 28, 3) := by decide +kernel
theorem dX0_readFrom_10 : decode cX0_readFrom 10 = .ok (.aload_n 0, 1) := by decide +kernel
theorem dX0_readFrom_11 : decode cX0_readFrom 11 = .ok (.iconst 3, 1) := by decide +kernel
theorem dX0_readFrom_12 : decode cX0_readFrom 12 = .ok (.putfield 21, 3) := by decide +kernel
theorem dX0_readFrom_15 : decode cX0_readFrom 15 = .ok (.aload_n 0, 1) := by decide +kernel
theorem dX0_readFrom_16 : decode cX0_readFrom 16 = .ok (.iconst 0, 1) := by decide +kernel
theorem dX0_readFrom_17 : decode cX0_readFrom 17 = .ok (.putfield 31, 3) := by decide +kernel
theorem dX0_readFrom_20 : decode cX0_readFrom 20 = .ok (.aload_n 0, 1) := by decide +kernel
theorem dX0_readFrom_21 : decode cX0_readFrom 21 = .ok (.iconst 0, 1) := by decide +kernel
theorem dX0_readFrom_22 : decode cX0_readFrom 22 = .ok (.putfield 35, 3) := by decide +kernel
theorem dX0_readFrom_25 : decode cX0_readFrom 25 = .ok (.iconst 0, 1) := by decide +kernel
theorem dX0_readFrom_26 : decode cX0_readFrom 26 = .ok (.istore_n 2, 1) := by decide +kernel
theorem dX0_readFrom_27 : decode cX0_readFrom 27 = .ok (.aload_n 1, 1) := by decide +kernel
theorem dX0_readFrom_28 : decode cX0_readFrom 28 = .ok (.invokevirtual 38, 3) := by decide +kernel
theorem dX0_readFrom_31 : decode cX0_readFrom 31 = .ok (.iload_n 2, 1) := by decide +kernel
theorem dX0_readFrom_32 : decode cX0_readFrom 32 = .ok (.bipush 14, 2) := by decide +kernel
theorem dX0_readFrom_34 : decode cX0_readFrom 34 = .ok (.if_icmp .ge 36, 3) := by decide +kernel
theorem dX0_readFrom_37 : decode cX0_readFrom 37 = .ok (.aload_n 1, 1) := by decide +kernel
theorem dX0_readFrom_38 : decode cX0_readFrom 38 = .ok (.getfield 43, 3) := by decide +kernel
theorem dX0_readFrom_41 : decode cX0_readFrom 41 = .ok (.ifCond .eq 29, 3) := by decide +kernel
theorem dX0_readFrom_44 : decode cX0_readFrom 44 = .ok (.aload_n 0, 1) := by decide +kernel
theorem dX0_readFrom_45 : decode cX0_readFrom 45 = .ok (.aload_n 1, 1) := by decide +kernel
theorem dX0_readFrom_46 : decode cX0_readFrom 46 = .ok (.invokevirtual 46, 3) := by decide +kernel
theorem dX0_readFrom_49 : decode cX0_readFrom 49 = .ok (.ifCond .ne 11, 3) := by decide +kernel
theorem dX0_readFrom_52 : decode cX0_readFrom 52 = .ok (.bipush (-10), 2) := by decide +kernel
theorem dX0_readFrom_54 : decode cX0_readFrom 54 = .ok (.aload_n 1, 1) := by decide +kernel
theorem dX0_readFrom_55 : decode cX0_readFrom 55 = .ok (.getfield 50, 3) := by decide +kernel
theorem dX0_readFrom_58 : decode cX0_readFrom 58 = .ok (.isub, 1) := by decide +kernel
theorem dX0_readFrom_59 : decode cX0_readFrom 59 = .ok (.ireturn, 1) := by decide +kernel
theorem dX0_readFrom_60 : decode cX0_readFrom 60 = .ok (.iinc 2 1, 3) := by decide +kernel
theorem dX0_readFrom_63 : decode cX0_readFrom 63 = .ok (.aload_n 1, 1) := by decide +kernel
theorem dX0_readFrom_64 : decode cX0_readFrom 64 = .ok (.invokevirtual 53, 3) := by decide +kernel
theorem dX0_readFrom_67 : decode cX0_readFrom 67 = .ok (.goto (-36), 3) := by decide +kernel
theorem dX0_readFrom_70 : decode cX0_readFrom 70 = .ok (.aload_n 1, 1) := by decide +kernel
theorem dX0_readFrom_71 : decode cX0_readFrom 71 = .ok (.getfield 43, 3) := by decide +kernel
theorem dX0_readFrom_74 : decode cX0_readFrom 74 = .ok (.ifCond .eq 11, 3) := by decide +kernel
theorem dX0_readFrom_77 : decode cX0_readFrom 77 = .ok (.bipush (-10), 2) := by decide +kernel
theorem dX0_readFrom_79 : decode cX0_readFrom 79 = .ok (.aload_n 1, 1) := by decide +kernel
theorem dX0_readFrom_80 : decode cX0_readFrom 80 = .ok (.getfield 50, 3) := by decide +kernel
theorem dX0_readFrom_83 : decode cX0_readFrom 83 = .ok (.isub, 1) := by decide +kernel
theorem dX0_readFrom_84 : decode cX0_readFrom 84 = .ok (.ireturn, 1) := by decide +kernel
theorem dX0_readFrom_85 : decode cX0_readFrom 85 = .ok (.aload_n 0, 1) := by decide +kernel
theorem dX0_readFrom_86 : decode cX0_readFrom 86 = .ok (.invokevirtual 56, 3) := by decide +kernel
theorem dX0_readFrom_89 : decode cX0_readFrom 89 = .ok (.iload_n 2, 1) := by decide +kernel
theorem dX0_readFrom_90 : decode cX0_readFrom 90 = .ok (.ireturn, 1) := by decide +kernel
theorem dX0_readItem_0 : decode cX0_readItem 0 = .ok (.aload_n 1, 1) := by decide +kernel
theorem dX0_readItem_1 : decode cX0_readItem 1 = .ok (.getfield 43, 3) := by decide +kernel
theorem dX0_readItem_4 : decode cX0_readItem 4 = .ok (.iconst 1, 1) := by decide +kernel
theorem dX0_readItem_5 : decode cX0_readItem 5 = .ok (.if_icmp .ne 10, 3) := by decide +kernel
theorem dX0_readItem_8 : decode cX0_readItem 8 = .ok (.aload_n 1, 1) := by decide +kernel
theorem dX0_readItem_9 : decode cX0_readItem 9 = .ok (.getfield 59, 3) := by decide +kernel
theorem dX0_readItem_12 : decode cX0_readItem 12 = .ok (.goto 4, 3) := by decide +kernel
theorem dX0_readItem_15 : decode cX0_readItem 15 = .ok (.iconst 0, 1) := by decide +kernel
theorem dX0_readItem_16 : decode cX0_readItem 16 = .ok (.istore_n 2, 1) := by decide +kernel
theorem dX0_readItem_17 : decode cX0_readItem 17 = .ok (.aload_n 0, 1) := by decide +kernel
theorem dX0_readItem_18 : decode cX0_readItem 18 = .ok (.iload_n 2, 1) := by decide +kernel
theorem dX0_readItem_19 : decode cX0_readItem 19 = .ok (.invokevirtual 62, 3) := by decide +kernel
theorem dX0_readItem_22 : decode cX0_readItem 22 = .ok (.ifCond .ne 5, 3) := by decide +kernel
theorem dX0_readItem_25 : decode cX0_readItem 25 = .ok (.iconst 0, 1) := by decide +kernel
theorem dX0_readItem_26 : decode cX0_readItem 26 = .ok (.ireturn, 1) := by decide +kernel
theorem dX0_readItem_27 : decode cX0_readItem 27 = .ok (.iconst 0, 1) := by decide +kernel
theorem dX0_readItem_28 : decode cX0_readItem 28 = .ok (.istore_n 3, 1) := by decide +kernel
theorem dX0_readItem_29 : decode cX0_readItem 29 = .ok (.iload_n 2, 1) := by decide +kernel
theorem dX0_readItem_30 : decode cX0_readItem 30 = .ok (.bipush 112, 2) := by decide +kernel
theorem dX0_readItem_32 : decode cX0_readItem 32 = .ok (.if_icmp .eq 34, 3) := by decide +kernel
theorem dX0_readItem_35 : decode cX0_readItem 35 = .ok (.aload_n 1, 1) := by decide +kernel
theorem dX0_readItem_36 : decode cX0_readItem 36 = .ok (.invokevirtual 53, 3) := by decide +kernel
theorem dX0_readItem_39 : decode cX0_readItem 39 = .ok (.aload_n 1, 1) := by decide +kernel
theorem dX0_readItem_40 : decode cX0_readItem 40 = .ok (.iload_n 2, 1) := by decide +kernel
theorem dX0_readItem_41 : decode cX0_readItem 41 = .ok (.bipush 111, 2) := by decide +kernel
theorem dX0_readItem_43 : decode cX0_readItem 43 = .ok (.if_icmp .ne 7, 3) := by decide +kernel
theorem dX0_readItem_46 : decode cX0_readItem 46 = .ok (.iconst 1, 1) := by decide +kernel
theorem dX0_readItem_47 : decode cX0_readItem 47 = .ok (.goto 4, 3) := by decide +kernel
theorem dX0_readItem_50 : decode cX0_readItem 50 = .ok (.iconst 0, 1) := by decide +kernel
theorem dX0_readItem_51 : decode cX0_readItem 51 = .ok (.bipush 9, 2) := by decide +kernel
theorem dX0_readItem_53 : decode cX0_readItem 53 = .ok (.invokevirtual 66, 3) := by decide +kernel
theorem dX0_readItem_56 : decode cX0_readItem 56 = .ok (.ifCond .ne 5, 3) := by decide +kernel
theorem dX0_readItem_59 : decode cX0_readItem 59 = .ok (.iconst 0, 1) := by decide +kernel
theorem dX0_readItem_60 : decode cX0_readItem 60 = .ok (.ireturn, 1) := by decide +kernel
theorem dX0_readItem_61 : decode cX0_readItem 61 = .ok (.aload_n 1, 1) := by decide +kernel
theorem dX0_readItem_62 : decode cX0_readItem 62 = .ok (.getfield 59, 3) := by decide +kernel
theorem dX0_readItem_65 : decode cX0_readItem 65 = .ok (.istore_n 3, 1) := by decide +kernel
theorem dX0_readItem_66 : decode cX0_readItem 66 = .ok (.aload_n 1, 1) := by decide +kernel
theorem dX0_readItem_67 : decode cX0_readItem 67 = .ok (.iload_n 2, 1) := by decide +kernel
theorem dX0_readItem_68 : decode cX0_readItem 68 = .ok (.bipush 97, 2) := by decide +kernel
theorem dX0_readItem_70 : decode cX0_readItem 70 = .ok (.if_icmp .eq 9, 3) := by decide +kernel
theorem dX0_readItem_73 : decode cX0_readItem 73 = .ok (.iload_n 2, 1) := by decide +kernel
theorem dX0_readItem_74 : decode cX0_readItem 74 = .ok (.bipush 112, 2) := by decide +kernel
theorem dX0_readItem_76 : decode cX0_readItem 76 = .ok (.if_icmp .ne 8, 3) := by decide +kernel
theorem dX0_readItem_79 : decode cX0_readItem 79 = .ok (.bipush 8, 2) := by decide +kernel
theorem dX0_readItem_81 : decode cX0_readItem 81 = .ok (.goto 4, 3) := by decide +kernel
theorem dX0_readItem_84 : decode cX0_readItem 84 = .ok (.iconst 0, 1) := by decide +kernel
theorem dX0_readItem_85 : decode cX0_readItem 85 = .ok (.invokestatic 70, 3) := by decide +kernel
theorem dX0_readItem_88 : decode cX0_readItem 88 = .ok (.istore 4, 2) := by decide +kernel
theorem dX0_readItem_90 : decode cX0_readItem 90 = .ok (.iload 4, 2) := by decide +kernel
theorem dX0_readItem_92 : decode cX0_readItem 92 = .ok (.ifCond .ge 5, 3) := by decide +kernel
theorem dX0_readItem_95 : decode cX0_readItem 95 = .ok (.iconst 0, 1) := by decide +kernel
theorem dX0_readItem_96 : decode cX0_readItem 96 = .ok (.ireturn, 1) := by decide +kernel
theorem dX0_readItem_97 : decode cX0_readItem 97 = .ok (.aload_n 0, 1) := by decide +kernel
theorem dX0_readItem_98 : decode cX0_readItem 98 = .ok (.iload_n 2, 1) := by decide +kernel
theorem dX0_readItem_99 : decode cX0_readItem 99 = .ok (.iload_n 3, 1) := by decide +kernel
theorem dX0_readItem_100 : decode cX0_readItem 100 = .ok (.iload 4, 2) := by decide +kernel
theorem dX0_readItem_102 : decode cX0_readItem 102 = .ok (.invokevirtual 74, 3) := by decide +kernel
theorem dX0_readItem_105 : decode cX0_readItem 105 = .ok (.iconst 1, 1) := by decide +kernel
theorem dX0_readItem_106 : decode cX0_readItem 106 = .ok (.ireturn, 1) := by decide +kernel
theorem dX0_hasRoomFor_0 : decode cX0_hasRoomFor 0 = .ok (.iload_n 1, 1) := by decide +kernel
theorem dX0_hasRoomFor_1 : decode cX0_hasRoomFor 1 = .ok (.lookupswitch 100 #[(97, 43), (111, 87), (112, 73), (122, 58)], 43) := by decide +kernel
theorem dX0_hasRoomFor_44 : decode cX0_hasRoomFor 44 = .ok (.aload_n 0, 1) := by decide +kernel
theorem dX0_hasRoomFor_45 : decode cX0_hasRoomFor 45 = .ok (.getfield 25, 3) := by decide +kernel
theorem dX0_hasRoomFor_48 : decode cX0_hasRoomFor 48 = .ok (.bipush 8, 2) := by decide +kernel
theorem dX0_hasRoomFor_50 : decode cX0_hasRoomFor 50 = .ok (.if_icmp .ge 7, 3) := by decide +kernel
theorem dX0_hasRoomFor_53 : decode cX0_hasRoomFor 53 = .ok (.iconst 1, 1) := by decide +kernel
theorem dX0_hasRoomFor_54 : decode cX0_hasRoomFor 54 = .ok (.goto 4, 3) := by decide +kernel
theorem dX0_hasRoomFor_57 : decode cX0_hasRoomFor 57 = .ok (.iconst 0, 1) := by decide +kernel
theorem dX0_hasRoomFor_58 : decode cX0_hasRoomFor 58 = .ok (.ireturn, 1) := by decide +kernel
theorem dX0_hasRoomFor_59 : decode cX0_hasRoomFor 59 = .ok (.aload_n 0, 1) := by decide +kernel
theorem dX0_hasRoomFor_60 : decode cX0_hasRoomFor 60 = .ok (.getfield 25, 3) := by decide +kernel
theorem dX0_hasRoomFor_63 : decode cX0_hasRoomFor 63 = .ok (.bipush 8, 2) := by decide +kernel
theorem dX0_hasRoomFor_65 : decode cX0_hasRoomFor 65 = .ok (.if_icmp .ge 7, 3) := by decide +kernel
theorem dX0_hasRoomFor_68 : decode cX0_hasRoomFor 68 = .ok (.iconst 1, 1) := by decide +kernel
theorem dX0_hasRoomFor_69 : decode cX0_hasRoomFor 69 = .ok (.goto 4, 3) := by decide +kernel
theorem dX0_hasRoomFor_72 : decode cX0_hasRoomFor 72 = .ok (.iconst 0, 1) := by decide +kernel
theorem dX0_hasRoomFor_73 : decode cX0_hasRoomFor 73 = .ok (.ireturn, 1) := by decide +kernel
theorem dX0_hasRoomFor_74 : decode cX0_hasRoomFor 74 = .ok (.aload_n 0, 1) := by decide +kernel
theorem dX0_hasRoomFor_75 : decode cX0_hasRoomFor 75 = .ok (.getfield 28, 3) := by decide +kernel
theorem dX0_hasRoomFor_78 : decode cX0_hasRoomFor 78 = .ok (.iconst 5, 1) := by decide +kernel
theorem dX0_hasRoomFor_79 : decode cX0_hasRoomFor 79 = .ok (.if_icmp .ge 7, 3) := by decide +kernel
theorem dX0_hasRoomFor_82 : decode cX0_hasRoomFor 82 = .ok (.iconst 1, 1) := by decide +kernel
theorem dX0_hasRoomFor_83 : decode cX0_hasRoomFor 83 = .ok (.goto 4, 3) := by decide +kernel
theorem dX0_hasRoomFor_86 : decode cX0_hasRoomFor 86 = .ok (.iconst 0, 1) := by decide +kernel
theorem dX0_hasRoomFor_87 : decode cX0_hasRoomFor 87 = .ok (.ireturn, 1) := by decide +kernel
theorem dX0_hasRoomFor_88 : decode cX0_hasRoomFor 88 = .ok (.aload_n 0, 1) := by decide +kernel
theorem dX0_hasRoomFor_89 : decode cX0_hasRoomFor 89 = .ok (.getfield 31, 3) := by decide +kernel
theorem dX0_hasRoomFor_92 : decode cX0_hasRoomFor 92 = .ok (.ifCond .ne 7, 3) := by decide +kernel
theorem dX0_hasRoomFor_95 : decode cX0_hasRoomFor 95 = .ok (.iconst 1, 1) := by decide +kernel
theorem dX0_hasRoomFor_96 : decode cX0_hasRoomFor 96 = .ok (.goto 4, 3) := by decide +kernel
theorem dX0_hasRoomFor_99 : decode cX0_hasRoomFor 99 = .ok (.iconst 0, 1) := by decide +kernel
theorem dX0_hasRoomFor_100 : decode cX0_hasRoomFor 100 = .ok (.ireturn, 1) := by decide +kernel
theorem dX0_hasRoomFor_101 : decode cX0_hasRoomFor 101 = .ok (.iconst 0, 1) := by decide +kernel
theorem dX0_hasRoomFor_102 : decode cX0_hasRoomFor 102 = .ok (.ireturn, 1) := by decide +kernel
theorem dX0_readNumbers_0 : decode cX0_readNumbers 0 = .ok (.iconst 0, 1) := by decide +kernel
theorem dX0_readNumbers_1 : decode cX0_readNumbers 1 = .ok (.istore_n 2, 1) := by decide +kernel
theorem dX0_readNumbers_2 : decode cX0_readNumbers 2 = .ok (.iconst 0, 1) := by decide +kernel
theorem dX0_readNumbers_3 : decode cX0_readNumbers 3 = .ok (.istore_n 3, 1) := by decide +kernel
theorem dX0_readNumbers_4 : decode cX0_readNumbers 4 = .ok (.iload_n 3, 1) := by decide +kernel
theorem dX0_readNumbers_5 : decode cX0_readNumbers 5 = .ok (.iload_n 1, 1) := by decide +kernel
theorem dX0_readNumbers_6 : decode cX0_readNumbers 6 = .ok (.if_icmp .gt 49, 3) := by decide +kernel
theorem dX0_readNumbers_9 : decode cX0_readNumbers 9 = .ok (.aload_n 0, 1) := by decide +kernel
theorem dX0_readNumbers_10 : decode cX0_readNumbers 10 = .ok (.invokevirtual 53, 3) := by decide +kernel
theorem dX0_readNumbers_13 : decode cX0_readNumbers 13 = .ok (.aload_n 0, 1) := by decide +kernel
theorem dX0_readNumbers_14 : decode cX0_readNumbers 14 = .ok (.getfield 43, 3) := by decide +kernel
theorem dX0_readNumbers_17 : decode cX0_readNumbers 17 = .ok (.iconst 3, 1) := by decide +kernel
theorem dX0_readNumbers_18 : decode cX0_readNumbers 18 = .ok (.if_icmp .ne 5, 3) := by decide +kernel
theorem dX0_readNumbers_21 : decode cX0_readNumbers 21 = .ok (.iload_n 2, 1) := by decide +kernel
theorem dX0_readNumbers_22 : decode cX0_readNumbers 22 = .ok (.ireturn, 1) := by decide +kernel
theorem dX0_readNumbers_23 : decode cX0_readNumbers 23 = .ok (.iload_n 3, 1) := by decide +kernel
theorem dX0_readNumbers_24 : decode cX0_readNumbers 24 = .ok (.iload_n 1, 1) := by decide +kernel
theorem dX0_readNumbers_25 : decode cX0_readNumbers 25 = .ok (.if_icmp .eq 13, 3) := by decide +kernel
theorem dX0_readNumbers_28 : decode cX0_readNumbers 28 = .ok (.aload_n 0, 1) := by decide +kernel
theorem dX0_readNumbers_29 : decode cX0_readNumbers 29 = .ok (.iconst 0, 1) := by decide +kernel
theorem dX0_readNumbers_30 : decode cX0_readNumbers 30 = .ok (.bipush 7, 2) := by decide +kernel
theorem dX0_readNumbers_32 : decode cX0_readNumbers 32 = .ok (.invokevirtual 66, 3) := by decide +kernel
theorem dX0_readNumbers_35 : decode cX0_readNumbers 35 = .ok (.ifCond .ne 5, 3) := by decide +kernel
theorem dX0_readNumbers_38 : decode cX0_readNumbers 38 = .ok (.iconst (-1), 1) := by decide +kernel
theorem dX0_readNumbers_39 : decode cX0_readNumbers 39 = .ok (.ireturn, 1) := by decide +kernel
theorem dX0_readNumbers_40 : decode cX0_readNumbers 40 = .ok (.iload_n 2, 1) := by decide +kernel
theorem dX0_readNumbers_41 : decode cX0_readNumbers 41 = .ok (.iconst 1, 1) := by decide +kernel
theorem dX0_readNumbers_42 : decode cX0_readNumbers 42 = .ok (.aload_n 0, 1) := by decide +kernel
theorem dX0_readNumbers_43 : decode cX0_readNumbers 43 = .ok (.getfield 59, 3) := by decide +kernel
theorem dX0_readNumbers_46 : decode cX0_readNumbers 46 = .ok (.ishl, 1) := by decide +kernel
theorem dX0_readNumbers_47 : decode cX0_readNumbers 47 = .ok (.ior, 1) := by decide +kernel
theorem dX0_readNumbers_48 : decode cX0_readNumbers 48 = .ok (.istore_n 2, 1) := by decide +kernel
theorem dX0_readNumbers_49 : decode cX0_readNumbers 49 = .ok (.iinc 3 1, 3) := by decide +kernel
theorem dX0_readNumbers_52 : decode cX0_readNumbers 52 = .ok (.goto (-48), 3) := by decide +kernel
theorem dX0_readNumbers_55 : decode cX0_readNumbers 55 = .ok (.iconst (-1), 1) := by decide +kernel
theorem dX0_readNumbers_56 : decode cX0_readNumbers 56 = .ok (.ireturn, 1) := by decide +kernel
theorem dX0_take_0 : decode cX0_take 0 = .ok (.iload_n 1, 1) := by decide +kernel
theorem dX0_take_1 : decode cX0_take 1 = .ok (.bipush 111, 2) := by decide +kernel
theorem dX0_take_3 : decode cX0_take 3 = .ok (.if_icmp .ne 16, 3) := by decide +kernel
theorem dX0_take_6 : decode cX0_take 6 = .ok (.aload_n 0, 1) := by decide +kernel
theorem dX0_take_7 : decode cX0_take 7 = .ok (.iload_n 2, 1) := by decide +kernel
theorem dX0_take_8 : decode cX0_take 8 = .ok (.putfield 21, 3) := by decide +kernel
theorem dX0_take_11 : decode cX0_take 11 = .ok (.aload_n 0, 1) := by decide +kernel
theorem dX0_take_12 : decode cX0_take 12 = .ok (.iconst 1, 1) := by decide +kernel
theorem dX0_take_13 : decode cX0_take 13 = .ok (.putfield 31, 3) := by decide +kernel
theorem dX0_take_16 : decode cX0_take 16 = .ok (.goto 104, 3) := by decide +kernel
theorem dX0_take_19 : decode cX0_take 19 = .ok (.iload_n 1, 1) := by decide +kernel
theorem dX0_take_20 : decode cX0_take 20 = .ok (.bipush 112, 2) := by decide +kernel
theorem dX0_take_22 : decode cX0_take 22 = .ok (.if_icmp .ne 34, 3) := by decide +kernel
theorem dX0_take_25 : decode cX0_take 25 = .ok (.aload_n 0, 1) := by decide +kernel
theorem dX0_take_26 : decode cX0_take 26 = .ok (.getfield 28, 3) := by decide +kernel
theorem dX0_take_29 : decode cX0_take 29 = .ok (.iconst 5, 1) := by decide +kernel
theorem dX0_take_30 : decode cX0_take 30 = .ok (.if_icmp .ge 26, 3) := by decide +kernel
theorem dX0_take_33 : decode cX0_take 33 = .ok (.aload_n 0, 1) := by decide +kernel
theorem dX0_take_34 : decode cX0_take 34 = .ok (.getfield 18, 3) := by decide +kernel
theorem dX0_take_37 : decode cX0_take 37 = .ok (.aload_n 0, 1) := by decide +kernel
theorem dX0_take_38 : decode cX0_take 38 = .ok (.getfield 28, 3) := by decide +kernel
theorem dX0_take_41 : decode cX0_take 41 = .ok (.iload_n 3, 1) := by decide +kernel
theorem dX0_take_42 : decode cX0_take 42 = .ok (.iastore, 1) := by decide +kernel
theorem dX0_take_43 : decode cX0_take 43 = .ok (.aload_n 0, 1) := by decide +kernel
theorem dX0_take_44 : decode cX0_take 44 = .ok (.dup, 1) := by decide +kernel
theorem dX0_take_45 : decode cX0_take 45 = .ok (.getfield 28, 3) := by decide +kernel
theorem dX0_take_48 : decode cX0_take 48 = .ok (.iconst 1, 1) := by decide +kernel
theorem dX0_take_49 : decode cX0_take 49 = .ok (.iadd, 1) := by decide +kernel
theorem dX0_take_50 : decode cX0_take 50 = .ok (.putfield 28, 3) := by decide +kernel
theorem dX0_take_53 : decode cX0_take 53 = .ok (.goto 67, 3) := by decide +kernel
theorem dX0_take_56 : decode cX0_take 56 = .ok (.aload_n 0, 1) := by decide +kernel
theorem dX0_take_57 : decode cX0_take 57 = .ok (.getfield 25, 3) := by decide +kernel
theorem dX0_take_60 : decode cX0_take 60 = .ok (.bipush 8, 2) := by decide +kernel
theorem dX0_take_62 : decode cX0_take 62 = .ok (.if_icmp .ge 58, 3) := by decide +kernel
theorem dX0_take_65 : decode cX0_take 65 = .ok (.aload_n 0, 1) := by decide +kernel
theorem dX0_take_66 : decode cX0_take 66 = .ok (.getfield 9, 3) := by decide +kernel
theorem dX0_take_69 : decode cX0_take 69 = .ok (.aload_n 0, 1) := by decide +kernel
theorem dX0_take_70 : decode cX0_take 70 = .ok (.getfield 25, 3) := by decide +kernel
theorem dX0_take_73 : decode cX0_take 73 = .ok (.iload_n 2, 1) := by decide +kernel
theorem dX0_take_74 : decode cX0_take 74 = .ok (.iastore, 1) := by decide +kernel
theorem dX0_take_75 : decode cX0_take 75 = .ok (.aload_n 0, 1) := by decide +kernel
theorem dX0_take_76 : decode cX0_take 76 = .ok (.getfield 15, 3) := by decide +kernel
theorem dX0_take_79 : decode cX0_take 79 = .ok (.aload_n 0, 1) := by decide +kernel
theorem dX0_take_80 : decode cX0_take 80 = .ok (.getfield 25, 3) := by decide +kernel
theorem dX0_take_83 : decode cX0_take 83 = .ok (.iload_n 3, 1) := by decide +kernel
theorem dX0_take_84 : decode cX0_take 84 = .ok (.iastore, 1) := by decide +kernel
theorem dX0_take_85 : decode cX0_take 85 = .ok (.aload_n 0, 1) := by decide +kernel
theorem dX0_take_86 : decode cX0_take 86 = .ok (.dup, 1) := by decide +kernel
theorem dX0_take_87 : decode cX0_take 87 = .ok (.getfield 35, 3) := by decide +kernel
theorem dX0_take_90 : decode cX0_take 90 = .ok (.iload_n 1, 1) := by decide +kernel
theorem dX0_take_91 : decode cX0_take 91 = .ok (.bipush 122, 2) := by decide +kernel
theorem dX0_take_93 : decode cX0_take 93 = .ok (.if_icmp .ne 12, 3) := by decide +kernel
theorem dX0_take_96 : decode cX0_take 96 = .ok (.iconst 1, 1) := by decide +kernel
theorem dX0_take_97 : decode cX0_take 97 = .ok (.aload_n 0, 1) := by decide +kernel
theorem dX0_take_98 : decode cX0_take 98 = .ok (.getfield 25, 3) := by decide +kernel
theorem dX0_take_101 : decode cX0_take 101 = .ok (.ishl, 1) := by decide +kernel
theorem dX0_take_102 : decode cX0_take 102 = .ok (.goto 4, 3) := by decide +kernel
theorem dX0_take_105 : decode cX0_take 105 = .ok (.iconst 0, 1) := by decide +kernel
theorem dX0_take_106 : decode cX0_take 106 = .ok (.ior, 1) := by decide +kernel
theorem dX0_take_107 : decode cX0_take 107 = .ok (.putfield 35, 3) := by decide +kernel
theorem dX0_take_110 : decode cX0_take 110 = .ok (.aload_n 0, 1) := by decide +kernel
theorem dX0_take_111 : decode cX0_take 111 = .ok (.dup, 1) := by decide +kernel
theorem dX0_take_112 : decode cX0_take 112 = .ok (.getfield 25, 3) := by decide +kernel
theorem dX0_take_115 : decode cX0_take 115 = .ok (.iconst 1, 1) := by decide +kernel
theorem dX0_take_116 : decode cX0_take 116 = .ok (.iadd, 1) := by decide +kernel
theorem dX0_take_117 : decode cX0_take 117 = .ok (.putfield 25, 3) := by decide +kernel
theorem dX0_take_120 : decode cX0_take 120 = .ok (.return_, 1) := by decide +kernel
theorem dX0_settle_0 : decode cX0_settle 0 = .ok (.iconst 1, 1) := by decide +kernel
theorem dX0_settle_1 : decode cX0_settle 1 = .ok (.aload_n 0, 1) := by decide +kernel
theorem dX0_settle_2 : decode cX0_settle 2 = .ok (.getfield 25, 3) := by decide +kernel
theorem dX0_settle_5 : decode cX0_settle 5 = .ok (.ishl, 1) := by decide +kernel
theorem dX0_settle_6 : decode cX0_settle 6 = .ok (.iconst 1, 1) := by decide +kernel
theorem dX0_settle_7 : decode cX0_settle 7 = .ok (.isub, 1) := by decide +kernel
theorem dX0_settle_8 : decode cX0_settle 8 = .ok (.istore_n 1, 1) := by decide +kernel
theorem dX0_settle_9 : decode cX0_settle 9 = .ok (.iconst 0, 1) := by decide +kernel
theorem dX0_settle_10 : decode cX0_settle 10 = .ok (.istore_n 2, 1) := by decide +kernel
theorem dX0_settle_11 : decode cX0_settle 11 = .ok (.iload_n 2, 1) := by decide +kernel
theorem dX0_settle_12 : decode cX0_settle 12 = .ok (.aload_n 0, 1) := by decide +kernel
theorem dX0_settle_13 : decode cX0_settle 13 = .ok (.getfield 25, 3) := by decide +kernel
theorem dX0_settle_16 : decode cX0_settle 16 = .ok (.if_icmp .ge 25, 3) := by decide +kernel
theorem dX0_settle_19 : decode cX0_settle 19 = .ok (.iload_n 2, 1) := by decide +kernel
theorem dX0_settle_20 : decode cX0_settle 20 = .ok (.bipush 8, 2) := by decide +kernel
theorem dX0_settle_22 : decode cX0_settle 22 = .ok (.if_icmp .ge 19, 3) := by decide +kernel
theorem dX0_settle_25 : decode cX0_settle 25 = .ok (.aload_n 0, 1) := by decide +kernel
theorem dX0_settle_26 : decode cX0_settle 26 = .ok (.getfield 15, 3) := by decide +kernel
theorem dX0_settle_29 : decode cX0_settle 29 = .ok (.iload_n 2, 1) := by decide +kernel
theorem dX0_settle_30 : decode cX0_settle 30 = .ok (.dup2, 1) := by decide +kernel
theorem dX0_settle_31 : decode cX0_settle 31 = .ok (.iaload, 1) := by decide +kernel
theorem dX0_settle_32 : decode cX0_settle 32 = .ok (.iload_n 1, 1) := by decide +kernel
theorem dX0_settle_33 : decode cX0_settle 33 = .ok (.iand, 1) := by decide +kernel
theorem dX0_settle_34 : decode cX0_settle 34 = .ok (.iastore, 1) := by decide +kernel
theorem dX0_settle_35 : decode cX0_settle 35 = .ok (.iinc 2 1, 3) := by decide +kernel
theorem dX0_settle_38 : decode cX0_settle 38 = .ok (.goto (-27), 3) := by decide +kernel
theorem dX0_settle_41 : decode cX0_settle 41 = .ok (.iconst 0, 1) := by decide +kernel
theorem dX0_settle_42 : decode cX0_settle 42 = .ok (.istore_n 2, 1) := by decide +kernel
theorem dX0_settle_43 : decode cX0_settle 43 = .ok (.iconst 0, 1) := by decide +kernel
theorem dX0_settle_44 : decode cX0_settle 44 = .ok (.istore_n 3, 1) := by decide +kernel
theorem dX0_settle_45 : decode cX0_settle 45 = .ok (.iload_n 3, 1) := by decide +kernel
theorem dX0_settle_46 : decode cX0_settle 46 = .ok (.aload_n 0, 1) := by decide +kernel
theorem dX0_settle_47 : decode cX0_settle 47 = .ok (.getfield 28, 3) := by decide +kernel
theorem dX0_settle_50 : decode cX0_settle 50 = .ok (.if_icmp .ge 33, 3) := by decide +kernel
theorem dX0_settle_53 : decode cX0_settle 53 = .ok (.iload_n 3, 1) := by decide +kernel
theorem dX0_settle_54 : decode cX0_settle 54 = .ok (.iconst 5, 1) := by decide +kernel
theorem dX0_settle_55 : decode cX0_settle 55 = .ok (.if_icmp .ge 28, 3) := by decide +kernel
theorem dX0_settle_58 : decode cX0_settle 58 = .ok (.aload_n 0, 1) := by decide +kernel
theorem dX0_settle_59 : decode cX0_settle 59 = .ok (.getfield 18, 3) := by decide +kernel
theorem dX0_settle_62 : decode cX0_settle 62 = .ok (.iload_n 3, 1) := by decide +kernel
theorem dX0_settle_63 : decode cX0_settle 63 = .ok (.dup2, 1) := by decide +kernel
theorem dX0_settle_64 : decode cX0_settle 64 = .ok (.iaload, 1) := by decide +kernel
theorem dX0_settle_65 : decode cX0_settle 65 = .ok (.iload_n 1, 1) := by decide +kernel
theorem dX0_settle_66 : decode cX0_settle 66 = .ok (.iand, 1) := by decide +kernel
theorem dX0_settle_67 : decode cX0_settle 67 = .ok (.iastore, 1) := by decide +kernel
theorem dX0_settle_68 : decode cX0_settle 68 = .ok (.iload_n 2, 1) := by decide +kernel
theorem dX0_settle_69 : decode cX0_settle 69 = .ok (.aload_n 0, 1) := by decide +kernel
theorem dX0_settle_70 : decode cX0_settle 70 = .ok (.getfield 18, 3) := by decide +kernel
theorem dX0_settle_73 : decode cX0_settle 73 = .ok (.iload_n 3, 1) := by decide +kernel
theorem dX0_settle_74 : decode cX0_settle 74 = .ok (.iaload, 1) := by decide +kernel
theorem dX0_settle_75 : decode cX0_settle 75 = .ok (.ior, 1) := by decide +kernel
theorem dX0_settle_76 : decode cX0_settle 76 = .ok (.istore_n 2, 1) := by decide +kernel
theorem dX0_settle_77 : decode cX0_settle 77 = .ok (.iinc 3 1, 3) := by decide +kernel
theorem dX0_settle_80 : decode cX0_settle 80 = .ok (.goto (-35), 3) := by decide +kernel
theorem dX0_settle_83 : decode cX0_settle 83 = .ok (.aload_n 0, 1) := by decide +kernel
theorem dX0_settle_84 : decode cX0_settle 84 = .ok (.iload_n 2, 1) := by decide +kernel
theorem dX0_settle_85 : decode cX0_settle 85 = .ok (.aload_n 0, 1) := by decide +kernel
theorem dX0_settle_86 : decode cX0_settle 86 = .ok (.getfield 35, 3) := by decide +kernel
theorem dX0_settle_89 : decode cX0_settle 89 = .ok (.iconst (-1), 1) := by decide +kernel
theorem dX0_settle_90 : decode cX0_settle 90 = .ok (.ixor, 1) := by decide +kernel
theorem dX0_settle_91 : decode cX0_settle 91 = .ok (.iand, 1) := by decide +kernel
theorem dX0_settle_92 : decode cX0_settle 92 = .ok (.putfield 78, 3) := by decide +kernel
theorem dX0_settle_95 : decode cX0_settle 95 = .ok (.return_, 1) := by decide +kernel
theorem dX0_hasSaying_0 : decode cX0_hasSaying 0 = .ok (.iload_n 1, 1) := by decide +kernel
theorem dX0_hasSaying_1 : decode cX0_hasSaying 1 = .ok (.ifCond .lt 21, 3) := by decide +kernel
theorem dX0_hasSaying_4 : decode cX0_hasSaying 4 = .ok (.iload_n 1, 1) := by decide +kernel
theorem dX0_hasSaying_5 : decode cX0_hasSaying 5 = .ok (.aload_n 0, 1) := by decide +kernel
theorem dX0_hasSaying_6 : decode cX0_hasSaying 6 = .ok (.getfield 25, 3) := by decide +kernel
theorem dX0_hasSaying_9 : decode cX0_hasSaying 9 = .ok (.if_icmp .ge 13, 3) := by decide +kernel
theorem dX0_hasSaying_12 : decode cX0_hasSaying 12 = .ok (.iload_n 1, 1) := by decide +kernel
theorem dX0_hasSaying_13 : decode cX0_hasSaying 13 = .ok (.bipush 8, 2) := by decide +kernel
theorem dX0_hasSaying_15 : decode cX0_hasSaying 15 = .ok (.if_icmp .ge 7, 3) := by decide +kernel
theorem dX0_hasSaying_18 : decode cX0_hasSaying 18 = .ok (.iconst 1, 1) := by decide +kernel
theorem dX0_hasSaying_19 : decode cX0_hasSaying 19 = .ok (.goto 4, 3) := by decide +kernel
theorem dX0_hasSaying_22 : decode cX0_hasSaying 22 = .ok (.iconst 0, 1) := by decide +kernel
theorem dX0_hasSaying_23 : decode cX0_hasSaying 23 = .ok (.ireturn, 1) := by decide +kernel
theorem dX0_hasPerson_0 : decode cX0_hasPerson 0 = .ok (.iload_n 1, 1) := by decide +kernel
theorem dX0_hasPerson_1 : decode cX0_hasPerson 1 = .ok (.ifCond .lt 20, 3) := by decide +kernel
theorem dX0_hasPerson_4 : decode cX0_hasPerson 4 = .ok (.iload_n 1, 1) := by decide +kernel
theorem dX0_hasPerson_5 : decode cX0_hasPerson 5 = .ok (.aload_n 0, 1) := by decide +kernel
theorem dX0_hasPerson_6 : decode cX0_hasPerson 6 = .ok (.getfield 28, 3) := by decide +kernel
theorem dX0_hasPerson_9 : decode cX0_hasPerson 9 = .ok (.if_icmp .ge 12, 3) := by decide +kernel
theorem dX0_hasPerson_12 : decode cX0_hasPerson 12 = .ok (.iload_n 1, 1) := by decide +kernel
theorem dX0_hasPerson_13 : decode cX0_hasPerson 13 = .ok (.iconst 5, 1) := by decide +kernel
theorem dX0_hasPerson_14 : decode cX0_hasPerson 14 = .ok (.if_icmp .ge 7, 3) := by decide +kernel
theorem dX0_hasPerson_17 : decode cX0_hasPerson 17 = .ok (.iconst 1, 1) := by decide +kernel
theorem dX0_hasPerson_18 : decode cX0_hasPerson 18 = .ok (.goto 4, 3) := by decide +kernel
theorem dX0_hasPerson_21 : decode cX0_hasPerson 21 = .ok (.iconst 0, 1) := by decide +kernel
theorem dX0_hasPerson_22 : decode cX0_hasPerson 22 = .ok (.ireturn, 1) := by decide +kernel
theorem dX0_hasAll_0 : decode cX0_hasAll 0 = .ok (.iload_n 1, 1) := by decide +kernel
theorem dX0_hasAll_1 : decode cX0_hasAll 1 = .ok (.ifCond .lt 22, 3) := by decide +kernel
theorem dX0_hasAll_4 : decode cX0_hasAll 4 = .ok (.iload_n 1, 1) := by decide +kernel
theorem dX0_hasAll_5 : decode cX0_hasAll 5 = .ok (.iconst 1, 1) := by decide +kernel
theorem dX0_hasAll_6 : decode cX0_hasAll 6 = .ok (.aload_n 0, 1) := by decide +kernel
theorem dX0_hasAll_7 : decode cX0_hasAll 7 = .ok (.getfield 25, 3) := by decide +kernel
theorem dX0_hasAll_10 : decode cX0_hasAll 10 = .ok (.bipush 8, 2) := by decide +kernel
theorem dX0_hasAll_12 : decode cX0_hasAll 12 = .ok (.invokestatic 81, 3) := by decide +kernel
theorem dX0_hasAll_15 : decode cX0_hasAll 15 = .ok (.ishl, 1) := by decide +kernel
theorem dX0_hasAll_16 : decode cX0_hasAll 16 = .ok (.if_icmp .ge 7, 3) := by decide +kernel
theorem dX0_hasAll_19 : decode cX0_hasAll 19 = .ok (.iconst 1, 1) := by decide +kernel
theorem dX0_hasAll_20 : decode cX0_hasAll 20 = .ok (.goto 4, 3) := by decide +kernel
theorem dX0_hasAll_23 : decode cX0_hasAll 23 = .ok (.iconst 0, 1) := by decide +kernel
theorem dX0_hasAll_24 : decode cX0_hasAll 24 = .ok (.ireturn, 1) := by decide +kernel
theorem dX0_isSound_0 : decode cX0_isSound 0 = .ok (.aload_n 0, 1) := by decide +kernel
theorem dX0_isSound_1 : decode cX0_isSound 1 = .ok (.getfield 35, 3) := by decide +kernel
theorem dX0_isSound_4 : decode cX0_isSound 4 = .ok (.iconst 1, 1) := by decide +kernel
theorem dX0_isSound_5 : decode cX0_isSound 5 = .ok (.iload_n 1, 1) := by decide +kernel
theorem dX0_isSound_6 : decode cX0_isSound 6 = .ok (.ishl, 1) := by decide +kernel
theorem dX0_isSound_7 : decode cX0_isSound 7 = .ok (.iand, 1) := by decide +kernel
theorem dX0_isSound_8 : decode cX0_isSound 8 = .ok (.ifCond .eq 7, 3) := by decide +kernel
theorem dX0_isSound_11 : decode cX0_isSound 11 = .ok (.iconst 1, 1) := by decide +kernel
theorem dX0_isSound_12 : decode cX0_isSound 12 = .ok (.goto 4, 3) := by decide +kernel
theorem dX0_isSound_15 : decode cX0_isSound 15 = .ok (.iconst 0, 1) := by decide +kernel
theorem dX0_isSound_16 : decode cX0_isSound 16 = .ok (.ireturn, 1) := by decide +kernel
theorem dX0_worthOf_0 : decode cX0_worthOf 0 = .ok (.aload_n 0, 1) := by decide +kernel
theorem dX0_worthOf_1 : decode cX0_worthOf 1 = .ok (.iload_n 1, 1) := by decide +kernel
theorem dX0_worthOf_2 : decode cX0_worthOf 2 = .ok (.invokevirtual 87, 3) := by decide +kernel
theorem dX0_worthOf_5 : decode cX0_worthOf 5 = .ok (.ifCond .eq 12, 3) := by decide +kernel
theorem dX0_worthOf_8 : decode cX0_worthOf 8 = .ok (.aload_n 0, 1) := by decide +kernel
theorem dX0_worthOf_9 : decode cX0_worthOf 9 = .ok (.getfield 9, 3) := by decide +kernel
theorem dX0_worthOf_12 : decode cX0_worthOf 12 = .ok (.iload_n 1, 1) := by decide +kernel
theorem dX0_worthOf_13 : decode cX0_worthOf 13 = .ok (.iaload, 1) := by decide +kernel
theorem dX0_worthOf_14 : decode cX0_worthOf 14 = .ok (.goto 4, 3) := by decide +kernel
theorem dX0_worthOf_17 : decode cX0_worthOf 17 = .ok (.iconst 0, 1) := by decide +kernel
theorem dX0_worthOf_18 : decode cX0_worthOf 18 = .ok (.ireturn, 1) := by decide +kernel
theorem dX0_answersCount_0 : decode cX0_answersCount 0 = .ok (.aload_n 0, 1) := by decide +kernel
theorem dX0_answersCount_1 : decode cX0_answersCount 1 = .ok (.iload_n 1, 1) := by decide +kernel
theorem dX0_answersCount_2 : decode cX0_answersCount 2 = .ok (.invokevirtual 87, 3) := by decide +kernel
theorem dX0_answersCount_5 : decode cX0_answersCount 5 = .ok (.ifCond .eq 15, 3) := by decide +kernel
theorem dX0_answersCount_8 : decode cX0_answersCount 8 = .ok (.aload_n 0, 1) := by decide +kernel
theorem dX0_answersCount_9 : decode cX0_answersCount 9 = .ok (.getfield 15, 3) := by decide +kernel
theorem dX0_answersCount_12 : decode cX0_answersCount 12 = .ok (.iload_n 1, 1) := by decide +kernel
theorem dX0_answersCount_13 : decode cX0_answersCount 13 = .ok (.iaload, 1) := by decide +kernel
theorem dX0_answersCount_14 : decode cX0_answersCount 14 = .ok (.invokestatic 90, 3) := by decide +kernel
theorem dX0_answersCount_17 : decode cX0_answersCount 17 = .ok (.goto 4, 3) := by decide +kernel
theorem dX0_answersCount_20 : decode cX0_answersCount 20 = .ok (.iconst 0, 1) := by decide +kernel
theorem dX0_answersCount_21 : decode cX0_answersCount 21 = .ok (.ireturn, 1) := by decide +kernel
theorem dX0_knowers_0 : decode cX0_knowers 0 = .ok (.iconst 0, 1) := by decide +kernel
theorem dX0_knowers_1 : decode cX0_knowers 1 = .ok (.istore_n 2, 1) := by decide +kernel
theorem dX0_knowers_2 : decode cX0_knowers 2 = .ok (.iconst 0, 1) := by decide +kernel
theorem dX0_knowers_3 : decode cX0_knowers 3 = .ok (.istore_n 3, 1) := by decide +kernel
theorem dX0_knowers_4 : decode cX0_knowers 4 = .ok (.iload_n 3, 1) := by decide +kernel
theorem dX0_knowers_5 : decode cX0_knowers 5 = .ok (.aload_n 0, 1) := by decide +kernel
theorem dX0_knowers_6 : decode cX0_knowers 6 = .ok (.getfield 28, 3) := by decide +kernel
theorem dX0_knowers_9 : decode cX0_knowers 9 = .ok (.if_icmp .ge 33, 3) := by decide +kernel
theorem dX0_knowers_12 : decode cX0_knowers 12 = .ok (.iload_n 3, 1) := by decide +kernel
theorem dX0_knowers_13 : decode cX0_knowers 13 = .ok (.iconst 5, 1) := by decide +kernel
theorem dX0_knowers_14 : decode cX0_knowers 14 = .ok (.if_icmp .ge 28, 3) := by decide +kernel
theorem dX0_knowers_17 : decode cX0_knowers 17 = .ok (.aload_n 0, 1) := by decide +kernel
theorem dX0_knowers_18 : decode cX0_knowers 18 = .ok (.getfield 18, 3) := by decide +kernel
theorem dX0_knowers_21 : decode cX0_knowers 21 = .ok (.iload_n 3, 1) := by decide +kernel
theorem dX0_knowers_22 : decode cX0_knowers 22 = .ok (.iaload, 1) := by decide +kernel
theorem dX0_knowers_23 : decode cX0_knowers 23 = .ok (.iconst 1, 1) := by decide +kernel
theorem dX0_knowers_24 : decode cX0_knowers 24 = .ok (.iload_n 1, 1) := by decide +kernel
theorem dX0_knowers_25 : decode cX0_knowers 25 = .ok (.ishl, 1) := by decide +kernel
theorem dX0_knowers_26 : decode cX0_knowers 26 = .ok (.iand, 1) := by decide +kernel
theorem dX0_knowers_27 : decode cX0_knowers 27 = .ok (.ifCond .eq 9, 3) := by decide +kernel
theorem dX0_knowers_30 : decode cX0_knowers 30 = .ok (.iload_n 2, 1) := by decide +kernel
theorem dX0_knowers_31 : decode cX0_knowers 31 = .ok (.iconst 1, 1) := by decide +kernel
theorem dX0_knowers_32 : decode cX0_knowers 32 = .ok (.iload_n 3, 1) := by decide +kernel
theorem dX0_knowers_33 : decode cX0_knowers 33 = .ok (.ishl, 1) := by decide +kernel
theorem dX0_knowers_34 : decode cX0_knowers 34 = .ok (.ior, 1) := by decide +kernel
theorem dX0_knowers_35 : decode cX0_knowers 35 = .ok (.istore_n 2, 1) := by decide +kernel
theorem dX0_knowers_36 : decode cX0_knowers 36 = .ok (.iinc 3 1, 3) := by decide +kernel
theorem dX0_knowers_39 : decode cX0_knowers 39 = .ok (.goto (-35), 3) := by decide +kernel
theorem dX0_knowers_42 : decode cX0_knowers 42 = .ok (.iload_n 2, 1) := by decide +kernel
theorem dX0_knowers_43 : decode cX0_knowers 43 = .ok (.ireturn, 1) := by decide +kernel
theorem dX0_answering_0 : decode cX0_answering 0 = .ok (.iconst 0, 1) := by decide +kernel
theorem dX0_answering_1 : decode cX0_answering 1 = .ok (.istore_n 2, 1) := by decide +kernel
theorem dX0_answering_2 : decode cX0_answering 2 = .ok (.iconst 0, 1) := by decide +kernel
theorem dX0_answering_3 : decode cX0_answering 3 = .ok (.istore_n 3, 1) := by decide +kernel
theorem dX0_answering_4 : decode cX0_answering 4 = .ok (.iload_n 3, 1) := by decide +kernel
theorem dX0_answering_5 : decode cX0_answering 5 = .ok (.aload_n 0, 1) := by decide +kernel
theorem dX0_answering_6 : decode cX0_answering 6 = .ok (.getfield 25, 3) := by decide +kernel
theorem dX0_answering_9 : decode cX0_answering 9 = .ok (.if_icmp .ge 24, 3) := by decide +kernel
theorem dX0_answering_12 : decode cX0_answering 12 = .ok (.aload_n 0, 1) := by decide +kernel
theorem dX0_answering_13 : decode cX0_answering 13 = .ok (.iload_n 3, 1) := by decide +kernel
theorem dX0_answering_14 : decode cX0_answering 14 = .ok (.iload_n 1, 1) := by decide +kernel
theorem dX0_answering_15 : decode cX0_answering 15 = .ok (.invokevirtual 96, 3) := by decide +kernel
theorem dX0_answering_18 : decode cX0_answering 18 = .ok (.ifCond .eq 9, 3) := by decide +kernel
theorem dX0_answering_21 : decode cX0_answering 21 = .ok (.iload_n 2, 1) := by decide +kernel
theorem dX0_answering_22 : decode cX0_answering 22 = .ok (.iconst 1, 1) := by decide +kernel
theorem dX0_answering_23 : decode cX0_answering 23 = .ok (.iload_n 3, 1) := by decide +kernel
theorem dX0_answering_24 : decode cX0_answering 24 = .ok (.ishl, 1) := by decide +kernel
theorem dX0_answering_25 : decode cX0_answering 25 = .ok (.ior, 1) := by decide +kernel
theorem dX0_answering_26 : decode cX0_answering 26 = .ok (.istore_n 2, 1) := by decide +kernel
theorem dX0_answering_27 : decode cX0_answering 27 = .ok (.iinc 3 1, 3) := by decide +kernel
theorem dX0_answering_30 : decode cX0_answering 30 = .ok (.goto (-26), 3) := by decide +kernel
theorem dX0_answering_33 : decode cX0_answering 33 = .ok (.iload_n 2, 1) := by decide +kernel
theorem dX0_answering_34 : decode cX0_answering 34 = .ok (.ireturn, 1) := by decide +kernel
theorem dX0_canAnswer_0 : decode cX0_canAnswer 0 = .ok (.aload_n 0, 1) := by decide +kernel
theorem dX0_canAnswer_1 : decode cX0_canAnswer 1 = .ok (.iload_n 1, 1) := by decide +kernel
theorem dX0_canAnswer_2 : decode cX0_canAnswer 2 = .ok (.invokevirtual 87, 3) := by decide +kernel
theorem dX0_canAnswer_5 : decode cX0_canAnswer 5 = .ok (.ifCond .eq 29, 3) := by decide +kernel
theorem dX0_canAnswer_8 : decode cX0_canAnswer 8 = .ok (.aload_n 0, 1) := by decide +kernel
theorem dX0_canAnswer_9 : decode cX0_canAnswer 9 = .ok (.getfield 78, 3) := by decide +kernel
theorem dX0_canAnswer_12 : decode cX0_canAnswer 12 = .ok (.iconst 1, 1) := by decide +kernel
theorem dX0_canAnswer_13 : decode cX0_canAnswer 13 = .ok (.iload_n 1, 1) := by decide +kernel
theorem dX0_canAnswer_14 : decode cX0_canAnswer 14 = .ok (.ishl, 1) := by decide +kernel
theorem dX0_canAnswer_15 : decode cX0_canAnswer 15 = .ok (.iand, 1) := by decide +kernel
theorem dX0_canAnswer_16 : decode cX0_canAnswer 16 = .ok (.ifCond .eq 18, 3) := by decide +kernel
theorem dX0_canAnswer_19 : decode cX0_canAnswer 19 = .ok (.aload_n 0, 1) := by decide +kernel
theorem dX0_canAnswer_20 : decode cX0_canAnswer 20 = .ok (.getfield 15, 3) := by decide +kernel
theorem dX0_canAnswer_23 : decode cX0_canAnswer 23 = .ok (.iload_n 1, 1) := by decide +kernel
theorem dX0_canAnswer_24 : decode cX0_canAnswer 24 = .ok (.iaload, 1) := by decide +kernel
theorem dX0_canAnswer_25 : decode cX0_canAnswer 25 = .ok (.iload_n 2, 1) := by decide +kernel
theorem dX0_canAnswer_26 : decode cX0_canAnswer 26 = .ok (.iand, 1) := by decide +kernel
theorem dX0_canAnswer_27 : decode cX0_canAnswer 27 = .ok (.ifCond .eq 7, 3) := by decide +kernel
theorem dX0_canAnswer_30 : decode cX0_canAnswer 30 = .ok (.iconst 1, 1) := by decide +kernel
theorem dX0_canAnswer_31 : decode cX0_canAnswer 31 = .ok (.goto 4, 3) := by decide +kernel
theorem dX0_canAnswer_34 : decode cX0_canAnswer 34 = .ok (.iconst 0, 1) := by decide +kernel
theorem dX0_canAnswer_35 : decode cX0_canAnswer 35 = .ok (.ireturn, 1) := by decide +kernel
theorem dX0_answeredBy_0 : decode cX0_answeredBy 0 = .ok (.iconst 0, 1) := by decide +kernel
theorem dX0_answeredBy_1 : decode cX0_answeredBy 1 = .ok (.istore_n 2, 1) := by decide +kernel
theorem dX0_answeredBy_2 : decode cX0_answeredBy 2 = .ok (.iconst 0, 1) := by decide +kernel
theorem dX0_answeredBy_3 : decode cX0_answeredBy 3 = .ok (.istore_n 3, 1) := by decide +kernel
theorem dX0_answeredBy_4 : decode cX0_answeredBy 4 = .ok (.iload_n 3, 1) := by decide +kernel
theorem dX0_answeredBy_5 : decode cX0_answeredBy 5 = .ok (.aload_n 0, 1) := by decide +kernel
theorem dX0_answeredBy_6 : decode cX0_answeredBy 6 = .ok (.getfield 25, 3) := by decide +kernel
theorem dX0_answeredBy_9 : decode cX0_answeredBy 9 = .ok (.if_icmp .ge 32, 3) := by decide +kernel
theorem dX0_answeredBy_12 : decode cX0_answeredBy 12 = .ok (.iload_n 3, 1) := by decide +kernel
theorem dX0_answeredBy_13 : decode cX0_answeredBy 13 = .ok (.bipush 8, 2) := by decide +kernel
theorem dX0_answeredBy_15 : decode cX0_answeredBy 15 = .ok (.if_icmp .ge 26, 3) := by decide +kernel
theorem dX0_answeredBy_18 : decode cX0_answeredBy 18 = .ok (.iload_n 1, 1) := by decide +kernel
theorem dX0_answeredBy_19 : decode cX0_answeredBy 19 = .ok (.iconst 1, 1) := by decide +kernel
theorem dX0_answeredBy_20 : decode cX0_answeredBy 20 = .ok (.iload_n 3, 1) := by decide +kernel
theorem dX0_answeredBy_21 : decode cX0_answeredBy 21 = .ok (.ishl, 1) := by decide +kernel
theorem dX0_answeredBy_22 : decode cX0_answeredBy 22 = .ok (.iand, 1) := by decide +kernel
theorem dX0_answeredBy_23 : decode cX0_answeredBy 23 = .ok (.ifCond .eq 12, 3) := by decide +kernel
theorem dX0_answeredBy_26 : decode cX0_answeredBy 26 = .ok (.iload_n 2, 1) := by decide +kernel
theorem dX0_answeredBy_27 : decode cX0_answeredBy 27 = .ok (.aload_n 0, 1) := by decide +kernel
theorem dX0_answeredBy_28 : decode cX0_answeredBy 28 = .ok (.getfield 15, 3) := by decide +kernel
theorem dX0_answeredBy_31 : decode cX0_answeredBy 31 = .ok (.iload_n 3, 1) := by decide +kernel
theorem dX0_answeredBy_32 : decode cX0_answeredBy 32 = .ok (.iaload, 1) := by decide +kernel
theorem dX0_answeredBy_33 : decode cX0_answeredBy 33 = .ok (.ior, 1) := by decide +kernel
theorem dX0_answeredBy_34 : decode cX0_answeredBy 34 = .ok (.istore_n 2, 1) := by decide +kernel
theorem dX0_answeredBy_35 : decode cX0_answeredBy 35 = .ok (.iinc 3 1, 3) := by decide +kernel
theorem dX0_answeredBy_38 : decode cX0_answeredBy 38 = .ok (.goto (-34), 3) := by decide +kernel
theorem dX0_answeredBy_41 : decode cX0_answeredBy 41 = .ok (.iload_n 2, 1) := by decide +kernel
theorem dX0_answeredBy_42 : decode cX0_answeredBy 42 = .ok (.ireturn, 1) := by decide +kernel
theorem dX0_reachable_0 : decode cX0_reachable 0 = .ok (.iconst 0, 1) := by decide +kernel
theorem dX0_reachable_1 : decode cX0_reachable 1 = .ok (.istore_n 2, 1) := by decide +kernel
theorem dX0_reachable_2 : decode cX0_reachable 2 = .ok (.iconst 0, 1) := by decide +kernel
theorem dX0_reachable_3 : decode cX0_reachable 3 = .ok (.istore_n 3, 1) := by decide +kernel
theorem dX0_reachable_4 : decode cX0_reachable 4 = .ok (.iload_n 3, 1) := by decide +kernel
theorem dX0_reachable_5 : decode cX0_reachable 5 = .ok (.bipush 8, 2) := by decide +kernel
theorem dX0_reachable_7 : decode cX0_reachable 7 = .ok (.if_icmp .ge 29, 3) := by decide +kernel
theorem dX0_reachable_10 : decode cX0_reachable 10 = .ok (.aload_n 0, 1) := by decide +kernel
theorem dX0_reachable_11 : decode cX0_reachable 11 = .ok (.iload_n 1, 1) := by decide +kernel
theorem dX0_reachable_12 : decode cX0_reachable 12 = .ok (.iload_n 2, 1) := by decide +kernel
theorem dX0_reachable_13 : decode cX0_reachable 13 = .ok (.ior, 1) := by decide +kernel
theorem dX0_reachable_14 : decode cX0_reachable 14 = .ok (.invokevirtual 99, 3) := by decide +kernel
theorem dX0_reachable_17 : decode cX0_reachable 17 = .ok (.istore 4, 2) := by decide +kernel
theorem dX0_reachable_19 : decode cX0_reachable 19 = .ok (.iload 4, 2) := by decide +kernel
theorem dX0_reachable_21 : decode cX0_reachable 21 = .ok (.iload_n 2, 1) := by decide +kernel
theorem dX0_reachable_22 : decode cX0_reachable 22 = .ok (.if_icmp .ne 5, 3) := by decide +kernel
theorem dX0_reachable_25 : decode cX0_reachable 25 = .ok (.iload_n 2, 1) := by decide +kernel
theorem dX0_reachable_26 : decode cX0_reachable 26 = .ok (.ireturn, 1) := by decide +kernel
theorem dX0_reachable_27 : decode cX0_reachable 27 = .ok (.iload 4, 2) := by decide +kernel
theorem dX0_reachable_29 : decode cX0_reachable 29 = .ok (.istore_n 2, 1) := by decide +kernel
theorem dX0_reachable_30 : decode cX0_reachable 30 = .ok (.iinc 3 1, 3) := by decide +kernel
theorem dX0_reachable_33 : decode cX0_reachable 33 = .ok (.goto (-29), 3) := by decide +kernel
theorem dX0_reachable_36 : decode cX0_reachable 36 = .ok (.iload_n 2, 1) := by decide +kernel
theorem dX0_reachable_37 : decode cX0_reachable 37 = .ok (.ireturn, 1) := by decide +kernel
theorem dX0_canFollow_0 : decode cX0_canFollow 0 = .ok (.aload_n 0, 1) := by decide +kernel
theorem dX0_canFollow_1 : decode cX0_canFollow 1 = .ok (.iload_n 1, 1) := by decide +kernel
theorem dX0_canFollow_2 : decode cX0_canFollow 2 = .ok (.invokevirtual 102, 3) := by decide +kernel
theorem dX0_canFollow_5 : decode cX0_canFollow 5 = .ok (.ifCond .ne 12, 3) := by decide +kernel
theorem dX0_canFollow_8 : decode cX0_canFollow 8 = .ok (.aload_n 0, 1) := by decide +kernel
theorem dX0_canFollow_9 : decode cX0_canFollow 9 = .ok (.iload_n 1, 1) := by decide +kernel
theorem dX0_canFollow_10 : decode cX0_canFollow 10 = .ok (.iload_n 2, 1) := by decide +kernel
theorem dX0_canFollow_11 : decode cX0_canFollow 11 = .ok (.invokevirtual 96, 3) := by decide +kernel
theorem dX0_canFollow_14 : decode cX0_canFollow 14 = .ok (.ifCond .eq 7, 3) := by decide +kernel
theorem dX0_canFollow_17 : decode cX0_canFollow 17 = .ok (.iconst 1, 1) := by decide +kernel
theorem dX0_canFollow_18 : decode cX0_canFollow 18 = .ok (.goto 4, 3) := by decide +kernel
theorem dX0_canFollow_21 : decode cX0_canFollow 21 = .ok (.iconst 0, 1) := by decide +kernel
theorem dX0_canFollow_22 : decode cX0_canFollow 22 = .ok (.ireturn, 1) := by decide +kernel
