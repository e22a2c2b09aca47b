theorem dX3_init_0 : decode cX3_init 0 = .ok (.aload_n 0, 1) := by decide +kernel
theorem dX3_init_1 : decode cX3_init 1 = .ok (.invokespecial 3, 3) := by decide +kernel
theorem dX3_init_4 : decode cX3_init 4 = .ok (.aload_n 0, 1) := by decide +kernel
theorem dX3_init_5 : decode cX3_init 5 = .ok (.new 9, 3) := by decide +kernel
theorem dX3_init_8 : decode cX3_init 8 = .ok (.dup, 1) := by decide +kernel
theorem dX3_init_9 : decode cX3_init 9 = .ok (.invokespecial 11, 3) := by decide +kernel
theorem dX3_init_12 : decode cX3_init 12 = .ok (.putfield 12, 3) := by decide +kernel
theorem dX3_init_15 : decode cX3_init 15 = .ok (.aload_n 0, 1) := by decide +kernel
theorem dX3_init_16 : decode cX3_init 16 = .ok (.new 16, 3) := by decide +kernel
theorem dX3_init_19 : decode cX3_init 19 = .ok (.dup, 1) := by decide +kernel
theorem dX3_init_20 : decode cX3_init 20 = .ok (.invokespecial 18, 3) := by decide +kernel
theorem dX3_init_23 : decode cX3_init 23 = .ok (.putfield 19, 3) := by decide +kernel
theorem dX3_init_26 : decode cX3_init 26 = .ok (.aload_n 0, 1) := by decide +kernel
theorem dX3_init_27 : decode cX3_init 27 = .ok (.new 16, 3) := by decide +kernel
theorem dX3_init_30 : decode cX3_init 30 = .ok (.dup, 1) := by decide +kernel
theorem dX3_init_31 : decode cX3_init 31 = .ok (.invokespecial 18, 3) := by decide +kernel
theorem dX3_init_34 : decode cX3_init 34 = .ok (.putfield 23, 3) := by decide +kernel
theorem dX3_init_37 : decode cX3_init 37 = .ok (.aload_n 0, 1) := by decide +kernel
theorem dX3_init_38 : decode cX3_init 38 = .ok (.new 26, 3) := by decide +kernel
theorem dX3_init_41 : decode cX3_init 41 = .ok (.dup, 1) := by decide +kernel
theorem dX3_init_42 : decode cX3_init 42 = .ok (.invokespecial 28, 3) := by decide +kernel
theorem dX3_init_45 : decode cX3_init 45 = .ok (.putfield 29, 3) := by decide +kernel
theorem dX3_init_48 : decode cX3_init 48 = .ok (.aload_n 0, 1) := by decide +kernel
theorem dX3_init_49 : decode cX3_init 49 = .ok (.new 26, 3) := by decide +kernel
theorem dX3_init_52 : decode cX3_init 52 = .ok (.dup, 1) := by decide +kernel
theorem dX3_init_53 : decode cX3_init 53 = .ok (.invokespecial 28, 3) := by decide +kernel
theorem dX3_init_56 : decode cX3_init 56 = .ok (.putfield 33, 3) := by decide +kernel
theorem dX3_init_59 : decode cX3_init 59 = .ok (.aload_n 0, 1) := by decide +kernel
theorem dX3_init_60 : decode cX3_init 60 = .ok (.new 26, 3) := by decide +kernel
theorem dX3_init_63 : decode cX3_init 63 = .ok (.dup, 1) := by decide +kernel
theorem dX3_init_64 : decode cX3_init 64 = .ok (.invokespecial 28, 3) := by decide +kernel
theorem dX3_init_67 : decode cX3_init 67 = .ok (.putfield 36, 3) := by decide +kernel
theorem dX3_init_70 : decode cX3_init 70 = .ok (.aload_n 0, 1) := by decide +kernel
theorem dX3_init_71 : decode cX3_init 71 = .ok (.bipush 8, 2) := by decide +kernel
theorem dX3_init_73 : decode cX3_init 73 = .ok (.newarray .int, 2) := by decide +kernel
theorem dX3_init_75 : decode cX3_init 75 = .ok (.putfield 39, 3) := by decide +kernel
theorem dX3_init_78 : decode cX3_init 78 = .ok (.aload_n 0, 1) := by decide +kernel
theorem dX3_init_79 : decode cX3_init 79 = .ok (.iconst 0, 1) := by decide +kernel
theorem dX3_init_80 : decode cX3_init 80 = .ok (.putfield 43, 3) := by decide +kernel
theorem dX3_init_83 : decode cX3_init 83 = .ok (.aload_n 0, 1) := by decide +kernel
theorem dX3_init_84 : decode cX3_init 84 = .ok (.bipush 8, 2) := by decide +kernel
theorem dX3_init_86 : decode cX3_init 86 = .ok (.newarray .int, 2) := by decide +kernel
theorem dX3_init_88 : decode cX3_init 88 = .ok (.putfield 47, 3) := by decide +kernel
theorem dX3_init_91 : decode cX3_init 91 = .ok (.aload_n 0, 1) := by decide +kernel
theorem dX3_init_92 : decode cX3_init 92 = .ok (.sipush 256, 3) := by decide +kernel
theorem dX3_init_95 : decode cX3_init 95 = .ok (.newarray .int, 2) := by decide +kernel
theorem dX3_init_97 : decode cX3_init 97 = .ok (.putfield 50, 3) := by decide +kernel
theorem dX3_init_100 : decode cX3_init 100 = .ok (.aload_n 0, 1) := by decide +kernel
theorem dX3_init_101 : decode cX3_init 101 = .ok (.lconst 0, 1) := by decide +kernel
theorem dX3_init_102 : decode cX3_init 102 = .ok (.putfield 53, 3) := by decide +kernel
theorem dX3_init_105 : decode cX3_init 105 = .ok (.return_, 1) := by decide +kernel
theorem dX3_type_0 : decode cX3_type 0 = .ok (.iload_n 1, 1) := by decide +kernel
theorem dX3_type_1 : decode cX3_type 1 = .ok (.ifCond .lt 10, 3) := by decide +kernel
theorem dX3_type_4 : decode cX3_type 4 = .ok (.iload_n 1, 1) := by decide +kernel
theorem dX3_type_5 : decode cX3_type 5 = .ok (.sipush 255, 3) := by decide +kernel
theorem dX3_type_8 : decode cX3_type 8 = .ok (.if_icmp .le 5, 3) := by decide +kernel
theorem dX3_type_11 : decode cX3_type 11 = .ok (.iconst (-1), 1) := by decide +kernel
theorem dX3_type_12 : decode cX3_type 12 = .ok (.ireturn, 1) := by decide +kernel
theorem dX3_type_13 : decode cX3_type 13 = .ok (.aload_n 0, 1) := by decide +kernel
theorem dX3_type_14 : decode cX3_type 14 = .ok (.getfield 12, 3) := by decide +kernel
theorem dX3_type_17 : decode cX3_type 17 = .ok (.iload_n 1, 1) := by decide +kernel
theorem dX3_type_18 : decode cX3_type 18 = .ok (.invokevirtual 57, 3) := by decide +kernel
theorem dX3_type_21 : decode cX3_type 21 = .ok (.ifCond .eq 13, 3) := by decide +kernel
theorem dX3_type_24 : decode cX3_type 24 = .ok (.aload_n 0, 1) := by decide +kernel
theorem dX3_type_25 : decode cX3_type 25 = .ok (.getfield 12, 3) := by decide +kernel
theorem dX3_type_28 : decode cX3_type 28 = .ok (.getfield 61, 3) := by decide +kernel
theorem dX3_type_31 : decode cX3_type 31 = .ok (.goto 5, 3) := by decide +kernel
theorem dX3_type_34 : decode cX3_type 34 = .ok (.bipush (-3), 2) := by decide +kernel
theorem dX3_type_36 : decode cX3_type 36 = .ok (.ireturn, 1) := by decide +kernel
theorem dX3_clear_0 : decode cX3_clear 0 = .ok (.aload_n 0, 1) := by decide +kernel
theorem dX3_clear_1 : decode cX3_clear 1 = .ok (.getfield 12, 3) := by decide +kernel
theorem dX3_clear_4 : decode cX3_clear 4 = .ok (.getfield 61, 3) := by decide +kernel
theorem dX3_clear_7 : decode cX3_clear 7 = .ok (.istore_n 1, 1) := by decide +kernel
theorem dX3_clear_8 : decode cX3_clear 8 = .ok (.aload_n 0, 1) := by decide +kernel
theorem dX3_clear_9 : decode cX3_clear 9 = .ok (.getfield 12, 3) := by decide +kernel
theorem dX3_clear_12 : decode cX3_clear 12 = .ok (.iconst 0, 1) := by decide +kernel
theorem dX3_clear_13 : decode cX3_clear 13 = .ok (.putfield 61, 3) := by decide +kernel
theorem dX3_clear_16 : decode cX3_clear 16 = .ok (.iload_n 1, 1) := by decide +kernel
theorem dX3_clear_17 : decode cX3_clear 17 = .ok (.ireturn, 1) := by decide +kernel
theorem dX3_duchy_0 : decode cX3_duchy 0 = .ok (.aload_n 0, 1) := by decide +kernel
theorem dX3_duchy_1 : decode cX3_duchy 1 = .ok (.getfield 23, 3) := by decide +kernel
theorem dX3_duchy_4 : decode cX3_duchy 4 = .ok (.aload_n 0, 1) := by decide +kernel
theorem dX3_duchy_5 : decode cX3_duchy 5 = .ok (.getfield 12, 3) := by decide +kernel
theorem dX3_duchy_8 : decode cX3_duchy 8 = .ok (.invokevirtual 64, 3) := by decide +kernel
theorem dX3_duchy_11 : decode cX3_duchy 11 = .ok (.istore_n 1, 1) := by decide +kernel
theorem dX3_duchy_12 : decode cX3_duchy 12 = .ok (.iload_n 1, 1) := by decide +kernel
theorem dX3_duchy_13 : decode cX3_duchy 13 = .ok (.ifCond .ge 5, 3) := by decide +kernel
theorem dX3_duchy_16 : decode cX3_duchy 16 = .ok (.iload_n 1, 1) := by decide +kernel
theorem dX3_duchy_17 : decode cX3_duchy 17 = .ok (.ireturn, 1) := by decide +kernel
theorem dX3_duchy_18 : decode cX3_duchy 18 = .ok (.aload_n 0, 1) := by decide +kernel
theorem dX3_duchy_19 : decode cX3_duchy 19 = .ok (.getfield 19, 3) := by decide +kernel
theorem dX3_duchy_22 : decode cX3_duchy 22 = .ok (.astore_n 2, 1) := by decide +kernel
theorem dX3_duchy_23 : decode cX3_duchy 23 = .ok (.aload_n 0, 1) := by decide +kernel
theorem dX3_duchy_24 : decode cX3_duchy 24 = .ok (.aload_n 0, 1) := by decide +kernel
theorem dX3_duchy_25 : decode cX3_duchy 25 = .ok (.getfield 23, 3) := by decide +kernel
theorem dX3_duchy_28 : decode cX3_duchy 28 = .ok (.putfield 19, 3) := by decide +kernel
theorem dX3_duchy_31 : decode cX3_duchy 31 = .ok (.aload_n 0, 1) := by decide +kernel
theorem dX3_duchy_32 : decode cX3_duchy 32 = .ok (.aload_n 2, 1) := by decide +kernel
theorem dX3_duchy_33 : decode cX3_duchy 33 = .ok (.putfield 23, 3) := by decide +kernel
theorem dX3_duchy_36 : decode cX3_duchy 36 = .ok (.aload_n 0, 1) := by decide +kernel
theorem dX3_duchy_37 : decode cX3_duchy 37 = .ok (.getfield 12, 3) := by decide +kernel
theorem dX3_duchy_40 : decode cX3_duchy 40 = .ok (.iconst 0, 1) := by decide +kernel
theorem dX3_duchy_41 : decode cX3_duchy 41 = .ok (.putfield 61, 3) := by decide +kernel
theorem dX3_duchy_44 : decode cX3_duchy 44 = .ok (.aload_n 0, 1) := by decide +kernel
theorem dX3_duchy_45 : decode cX3_duchy 45 = .ok (.getfield 29, 3) := by decide +kernel
theorem dX3_duchy_48 : decode cX3_duchy 48 = .ok (.invokevirtual 68, 3) := by decide +kernel
theorem dX3_duchy_51 : decode cX3_duchy 51 = .ok (.aload_n 0, 1) := by decide +kernel
theorem dX3_duchy_52 : decode cX3_duchy 52 = .ok (.getfield 33, 3) := by decide +kernel
theorem dX3_duchy_55 : decode cX3_duchy 55 = .ok (.iconst 0, 1) := by decide +kernel
theorem dX3_duchy_56 : decode cX3_duchy 56 = .ok (.putfield 71, 3) := by decide +kernel
theorem dX3_duchy_59 : decode cX3_duchy 59 = .ok (.aload_n 0, 1) := by decide +kernel
theorem dX3_duchy_60 : decode cX3_duchy 60 = .ok (.getfield 36, 3) := by decide +kernel
theorem dX3_duchy_63 : decode cX3_duchy 63 = .ok (.iconst 0, 1) := by decide +kernel
theorem dX3_duchy_64 : decode cX3_duchy 64 = .ok (.putfield 71, 3) := by decide +kernel
theorem dX3_duchy_67 : decode cX3_duchy 67 = .ok (.aload_n 0, 1) := by decide +kernel
theorem dX3_duchy_68 : decode cX3_duchy 68 = .ok (.invokevirtual 75, 3) := by decide +kernel
theorem dX3_duchy_71 : decode cX3_duchy 71 = .ok (.iload_n 1, 1) := by decide +kernel
theorem dX3_duchy_72 : decode cX3_duchy 72 = .ok (.ireturn, 1) := by decide +kernel
theorem dX3_saying_0 : decode cX3_saying 0 = .ok (.aload_n 0, 1) := by decide +kernel
theorem dX3_saying_1 : decode cX3_saying 1 = .ok (.getfield 19, 3) := by decide +kernel
theorem dX3_saying_4 : decode cX3_saying 4 = .ok (.iload_n 1, 1) := by decide +kernel
theorem dX3_saying_5 : decode cX3_saying 5 = .ok (.invokevirtual 78, 3) := by decide +kernel
theorem dX3_saying_8 : decode cX3_saying 8 = .ok (.ifCond .ne 5, 3) := by decide +kernel
theorem dX3_saying_11 : decode cX3_saying 11 = .ok (.iconst (-1), 1) := by decide +kernel
theorem dX3_saying_12 : decode cX3_saying 12 = .ok (.ireturn, 1) := by decide +kernel
theorem dX3_saying_13 : decode cX3_saying 13 = .ok (.iload_n 2, 1) := by decide +kernel
theorem dX3_saying_14 : decode cX3_saying 14 = .ok (.tableswitch 89 0 4 #[34, 51, 61, 71, 80], 34) := by decide +kernel
theorem dX3_saying_48 : decode cX3_saying 48 = .ok (.aload_n 0, 1) := by decide +kernel
theorem dX3_saying_49 : decode cX3_saying 49 = .ok (.getfield 19, 3) := by decide +kernel
theorem dX3_saying_52 : decode cX3_saying 52 = .ok (.iload_n 1, 1) := by decide +kernel
theorem dX3_saying_53 : decode cX3_saying 53 = .ok (.invokevirtual 81, 3) := by decide +kernel
theorem dX3_saying_56 : decode cX3_saying 56 = .ok (.ifCond .eq 7, 3) := by decide +kernel
theorem dX3_saying_59 : decode cX3_saying 59 = .ok (.iconst 1, 1) := by decide +kernel
theorem dX3_saying_60 : decode cX3_saying 60 = .ok (.goto 4, 3) := by decide +kernel
theorem dX3_saying_63 : decode cX3_saying 63 = .ok (.iconst 0, 1) := by decide +kernel
theorem dX3_saying_64 : decode cX3_saying 64 = .ok (.ireturn, 1) := by decide +kernel
theorem dX3_saying_65 : decode cX3_saying 65 = .ok (.aload_n 0, 1) := by decide +kernel
theorem dX3_saying_66 : decode cX3_saying 66 = .ok (.getfield 19, 3) := by decide +kernel
theorem dX3_saying_69 : decode cX3_saying 69 = .ok (.getfield 84, 3) := by decide +kernel
theorem dX3_saying_72 : decode cX3_saying 72 = .ok (.iload_n 1, 1) := by decide +kernel
theorem dX3_saying_73 : decode cX3_saying 73 = .ok (.iaload, 1) := by decide +kernel
theorem dX3_saying_74 : decode cX3_saying 74 = .ok (.ireturn, 1) := by decide +kernel
theorem dX3_saying_75 : decode cX3_saying 75 = .ok (.aload_n 0, 1) := by decide +kernel
theorem dX3_saying_76 : decode cX3_saying 76 = .ok (.getfield 19, 3) := by decide +kernel
theorem dX3_saying_79 : decode cX3_saying 79 = .ok (.getfield 87, 3) := by decide +kernel
theorem dX3_saying_82 : decode cX3_saying 82 = .ok (.iload_n 1, 1) := by decide +kernel
theorem dX3_saying_83 : decode cX3_saying 83 = .ok (.iaload, 1) := by decide +kernel
theorem dX3_saying_84 : decode cX3_saying 84 = .ok (.ireturn, 1) := by decide +kernel
theorem dX3_saying_85 : decode cX3_saying 85 = .ok (.aload_n 0, 1) := by decide +kernel
theorem dX3_saying_86 : decode cX3_saying 86 = .ok (.getfield 19, 3) := by decide +kernel
theorem dX3_saying_89 : decode cX3_saying 89 = .ok (.iload_n 1, 1) := by decide +kernel
theorem dX3_saying_90 : decode cX3_saying 90 = .ok (.invokevirtual 90, 3) := by decide +kernel
theorem dX3_saying_93 : decode cX3_saying 93 = .ok (.ireturn, 1) := by decide +kernel
theorem dX3_saying_94 : decode cX3_saying 94 = .ok (.aload_n 0, 1) := by decide +kernel
theorem dX3_saying_95 : decode cX3_saying 95 = .ok (.getfield 29, 3) := by decide +kernel
theorem dX3_saying_98 : decode cX3_saying 98 = .ok (.iload_n 1, 1) := by decide +kernel
theorem dX3_saying_99 : decode cX3_saying 99 = .ok (.invokevirtual 94, 3) := by decide +kernel
theorem dX3_saying_102 : decode cX3_saying 102 = .ok (.ireturn, 1) := by decide +kernel
theorem dX3_saying_103 : decode cX3_saying 103 = .ok (.iconst (-1), 1) := by decide +kernel
theorem dX3_saying_104 : decode cX3_saying 104 = .ok (.ireturn, 1) := by decide +kernel
theorem dX3_person_0 : decode cX3_person 0 = .ok (.aload_n 0, 1) := by decide +kernel
theorem dX3_person_1 : decode cX3_person 1 = .ok (.getfield 19, 3) := by decide +kernel
theorem dX3_person_4 : decode cX3_person 4 = .ok (.iload_n 1, 1) := by decide +kernel
theorem dX3_person_5 : decode cX3_person 5 = .ok (.invokevirtual 97, 3) := by decide +kernel
theorem dX3_person_8 : decode cX3_person 8 = .ok (.ifCond .ne 5, 3) := by decide +kernel
theorem dX3_person_11 : decode cX3_person 11 = .ok (.iconst (-1), 1) := by decide +kernel
theorem dX3_person_12 : decode cX3_person 12 = .ok (.ireturn, 1) := by decide +kernel
theorem dX3_person_13 : decode cX3_person 13 = .ok (.iload_n 2, 1) := by decide +kernel
theorem dX3_person_14 : decode cX3_person 14 = .ok (.tableswitch 67 0 2 #[26, 36, 58], 26) := by decide +kernel
theorem dX3_person_40 : decode cX3_person 40 = .ok (.aload_n 0, 1) := by decide +kernel
theorem dX3_person_41 : decode cX3_person 41 = .ok (.getfield 19, 3) := by decide +kernel
theorem dX3_person_44 : decode cX3_person 44 = .ok (.getfield 100, 3) := by decide +kernel
theorem dX3_person_47 : decode cX3_person 47 = .ok (.iload_n 1, 1) := by decide +kernel
theorem dX3_person_48 : decode cX3_person 48 = .ok (.iaload, 1) := by decide +kernel
theorem dX3_person_49 : decode cX3_person 49 = .ok (.ireturn, 1) := by decide +kernel
theorem dX3_person_50 : decode cX3_person 50 = .ok (.aload_n 0, 1) := by decide +kernel
theorem dX3_person_51 : decode cX3_person 51 = .ok (.getfield 19, 3) := by decide +kernel
theorem dX3_person_54 : decode cX3_person 54 = .ok (.getfield 100, 3) := by decide +kernel
theorem dX3_person_57 : decode cX3_person 57 = .ok (.iload_n 1, 1) := by decide +kernel
theorem dX3_person_58 : decode cX3_person 58 = .ok (.iaload, 1) := by decide +kernel
theorem dX3_person_59 : decode cX3_person 59 = .ok (.aload_n 0, 1) := by decide +kernel
theorem dX3_person_60 : decode cX3_person 60 = .ok (.getfield 19, 3) := by decide +kernel
theorem dX3_person_63 : decode cX3_person 63 = .ok (.aload_n 0, 1) := by decide +kernel
theorem dX3_person_64 : decode cX3_person 64 = .ok (.invokevirtual 103, 3) := by decide +kernel
theorem dX3_person_67 : decode cX3_person 67 = .ok (.invokevirtual 107, 3) := by decide +kernel
theorem dX3_person_70 : decode cX3_person 70 = .ok (.iand, 1) := by decide +kernel
theorem dX3_person_71 : decode cX3_person 71 = .ok (.ireturn, 1) := by decide +kernel
theorem dX3_person_72 : decode cX3_person 72 = .ok (.aload_n 0, 1) := by decide +kernel
theorem dX3_person_73 : decode cX3_person 73 = .ok (.getfield 29, 3) := by decide +kernel
theorem dX3_person_76 : decode cX3_person 76 = .ok (.iload_n 1, 1) := by decide +kernel
theorem dX3_person_77 : decode cX3_person 77 = .ok (.invokevirtual 110, 3) := by decide +kernel
theorem dX3_person_80 : decode cX3_person 80 = .ok (.ireturn, 1) := by decide +kernel
theorem dX3_person_81 : decode cX3_person 81 = .ok (.iconst (-1), 1) := by decide +kernel
theorem dX3_person_82 : decode cX3_person 82 = .ok (.ireturn, 1) := by decide +kernel
theorem dX3_talk_0 : decode cX3_talk 0 = .ok (.aload_n 0, 1) := by decide +kernel
theorem dX3_talk_1 : decode cX3_talk 1 = .ok (.getfield 29, 3) := by decide +kernel
theorem dX3_talk_4 : decode cX3_talk 4 = .ok (.iload_n 1, 1) := by decide +kernel
theorem dX3_talk_5 : decode cX3_talk 5 = .ok (.invokevirtual 113, 3) := by decide +kernel
theorem dX3_talk_8 : decode cX3_talk 8 = .ok (.ifCond .ne 5, 3) := by decide +kernel
theorem dX3_talk_11 : decode cX3_talk 11 = .ok (.iconst (-1), 1) := by decide +kernel
theorem dX3_talk_12 : decode cX3_talk 12 = .ok (.ireturn, 1) := by decide +kernel
theorem dX3_talk_13 : decode cX3_talk 13 = .ok (.iload_n 2, 1) := by decide +kernel
theorem dX3_talk_14 : decode cX3_talk 14 = .ok (.tableswitch 148 0 7 #[46, 56, 66, 76, 86, 96, 106, 123], 46) := by decide +kernel
theorem dX3_talk_60 : decode cX3_talk 60 = .ok (.aload_n 0, 1) := by decide +kernel
theorem dX3_talk_61 : decode cX3_talk 61 = .ok (.getfield 29, 3) := by decide +kernel
theorem dX3_talk_64 : decode cX3_talk 64 = .ok (.getfield 116, 3) := by decide +kernel
theorem dX3_talk_67 : decode cX3_talk 67 = .ok (.iload_n 1, 1) := by decide +kernel
theorem dX3_talk_68 : decode cX3_talk 68 = .ok (.iaload, 1) := by decide +kernel
theorem dX3_talk_69 : decode cX3_talk 69 = .ok (.ireturn, 1) := by decide +kernel
theorem dX3_talk_70 : decode cX3_talk 70 = .ok (.aload_n 0, 1) := by decide +kernel
theorem dX3_talk_71 : decode cX3_talk 71 = .ok (.getfield 29, 3) := by decide +kernel
theorem dX3_talk_74 : decode cX3_talk 74 = .ok (.getfield 119, 3) := by decide +kernel
theorem dX3_talk_77 : decode cX3_talk 77 = .ok (.iload_n 1, 1) := by decide +kernel
theorem dX3_talk_78 : decode cX3_talk 78 = .ok (.iaload, 1) := by decide +kernel
theorem dX3_talk_79 : decode cX3_talk 79 = .ok (.ireturn, 1) := by decide +kernel
theorem dX3_talk_80 : decode cX3_talk 80 = .ok (.aload_n 0, 1) := by decide +kernel
theorem dX3_talk_81 : decode cX3_talk 81 = .ok (.getfield 29, 3) := by decide +kernel
theorem dX3_talk_84 : decode cX3_talk 84 = .ok (.getfield 122, 3) := by decide +kernel
theorem dX3_talk_87 : decode cX3_talk 87 = .ok (.iload_n 1, 1) := by decide +kernel
theorem dX3_talk_88 : decode cX3_talk 88 = .ok (.iaload, 1) := by decide +kernel
theorem dX3_talk_89 : decode cX3_talk 89 = .ok (.ireturn, 1) := by decide +kernel
theorem dX3_talk_90 : decode cX3_talk 90 = .ok (.aload_n 0, 1) := by decide +kernel
theorem dX3_talk_91 : decode cX3_talk 91 = .ok (.getfield 29, 3) := by decide +kernel
theorem dX3_talk_94 : decode cX3_talk 94 = .ok (.getfield 125, 3) := by decide +kernel
theorem dX3_talk_97 : decode cX3_talk 97 = .ok (.iload_n 1, 1) := by decide +kernel
theorem dX3_talk_98 : decode cX3_talk 98 = .ok (.iaload, 1) := by decide +kernel
theorem dX3_talk_99 : decode cX3_talk 99 = .ok (.ireturn, 1) := by decide +kernel
theorem dX3_talk_100 : decode cX3_talk 100 = .ok (.aload_n 0, 1) := by decide +kernel
theorem dX3_talk_101 : decode cX3_talk 101 = .ok (.getfield 29, 3) := by decide +kernel
theorem dX3_talk_104 : decode cX3_talk 104 = .ok (.getfield 128, 3) := by decide +kernel
theorem dX3_talk_107 : decode cX3_talk 107 = .ok (.iload_n 1, 1) := by decide +kernel
theorem dX3_talk_108 : decode cX3_talk 108 = .ok (.iaload, 1) := by decide +kernel
theorem dX3_talk_109 : decode cX3_talk 109 = .ok (.ireturn, 1) := by decide +kernel
theorem dX3_talk_110 : decode cX3_talk 110 = .ok (.aload_n 0, 1) := by decide +kernel
theorem dX3_talk_111 : decode cX3_talk 111 = .ok (.getfield 29, 3) := by decide +kernel
theorem dX3_talk_114 : decode cX3_talk 114 = .ok (.getfield 131, 3) := by decide +kernel
theorem dX3_talk_117 : decode cX3_talk 117 = .ok (.iload_n 1, 1) := by decide +kernel
theorem dX3_talk_118 : decode cX3_talk 118 = .ok (.iaload, 1) := by decide +kernel
theorem dX3_talk_119 : decode cX3_talk 119 = .ok (.ireturn, 1) := by decide +kernel
theorem dX3_talk_120 : decode cX3_talk 120 = .ok (.aload_n 0, 1) := by decide +kernel
theorem dX3_talk_121 : decode cX3_talk 121 = .ok (.getfield 29, 3) := by decide +kernel
theorem dX3_talk_124 : decode cX3_talk 124 = .ok (.iload_n 1, 1) := by decide +kernel
theorem dX3_talk_125 : decode cX3_talk 125 = .ok (.invokevirtual 134, 3) := by decide +kernel
theorem dX3_talk_128 : decode cX3_talk 128 = .ok (.ifCond .eq 7, 3) := by decide +kernel
theorem dX3_talk_131 : decode cX3_talk 131 = .ok (.iconst 1, 1) := by decide +kernel
theorem dX3_talk_132 : decode cX3_talk 132 = .ok (.goto 4, 3) := by decide +kernel
theorem dX3_talk_135 : decode cX3_talk 135 = .ok (.iconst 0, 1) := by decide +kernel
theorem dX3_talk_136 : decode cX3_talk 136 = .ok (.ireturn, 1) := by decide +kernel
theorem dX3_talk_137 : decode cX3_talk 137 = .ok (.aload_n 0, 1) := by decide +kernel
theorem dX3_talk_138 : decode cX3_talk 138 = .ok (.getfield 29, 3) := by decide +kernel
theorem dX3_talk_141 : decode cX3_talk 141 = .ok (.iload_n 1, 1) := by decide +kernel
theorem dX3_talk_142 : decode cX3_talk 142 = .ok (.iconst 0, 1) := by decide +kernel
theorem dX3_talk_143 : decode cX3_talk 143 = .ok (.aload_n 0, 1) := by decide +kernel
theorem dX3_talk_144 : decode cX3_talk 144 = .ok (.getfield 19, 3) := by decide +kernel
theorem dX3_talk_147 : decode cX3_talk 147 = .ok (.getfield 137, 3) := by decide +kernel
theorem dX3_talk_150 : decode cX3_talk 150 = .ok (.invokevirtual 140, 3) := by decide +kernel
theorem dX3_talk_153 : decode cX3_talk 153 = .ok (.ifCond .eq 7, 3) := by decide +kernel
theorem dX3_talk_156 : decode cX3_talk 156 = .ok (.iconst 1, 1) := by decide +kernel
theorem dX3_talk_157 : decode cX3_talk 157 = .ok (.goto 4, 3) := by decide +kernel
theorem dX3_talk_160 : decode cX3_talk 160 = .ok (.iconst 0, 1) := by decide +kernel
theorem dX3_talk_161 : decode cX3_talk 161 = .ok (.ireturn, 1) := by decide +kernel
theorem dX3_talk_162 : decode cX3_talk 162 = .ok (.iconst (-1), 1) := by decide +kernel
theorem dX3_talk_163 : decode cX3_talk 163 = .ok (.ireturn, 1) := by decide +kernel
theorem dX3_hears_0 : decode cX3_hears 0 = .ok (.aload_n 0, 1) := by decide +kernel
theorem dX3_hears_1 : decode cX3_hears 1 = .ok (.getfield 19, 3) := by decide +kernel
theorem dX3_hears_4 : decode cX3_hears 4 = .ok (.iload_n 1, 1) := by decide +kernel
theorem dX3_hears_5 : decode cX3_hears 5 = .ok (.invokevirtual 78, 3) := by decide +kernel
theorem dX3_hears_8 : decode cX3_hears 8 = .ok (.ifCond .eq 14, 3) := by decide +kernel
theorem dX3_hears_11 : decode cX3_hears 11 = .ok (.aload_n 0, 1) := by decide +kernel
theorem dX3_hears_12 : decode cX3_hears 12 = .ok (.getfield 19, 3) := by decide +kernel
theorem dX3_hears_15 : decode cX3_hears 15 = .ok (.iload_n 1, 1) := by decide +kernel
theorem dX3_hears_16 : decode cX3_hears 16 = .ok (.invokevirtual 81, 3) := by decide +kernel
theorem dX3_hears_19 : decode cX3_hears 19 = .ok (.ifCond .ne 5, 3) := by decide +kernel
theorem dX3_hears_22 : decode cX3_hears 22 = .ok (.iconst (-1), 1) := by decide +kernel
theorem dX3_hears_23 : decode cX3_hears 23 = .ok (.ireturn, 1) := by decide +kernel
theorem dX3_hears_24 : decode cX3_hears 24 = .ok (.aload_n 0, 1) := by decide +kernel
theorem dX3_hears_25 : decode cX3_hears 25 = .ok (.getfield 29, 3) := by decide +kernel
theorem dX3_hears_28 : decode cX3_hears 28 = .ok (.iload_n 1, 1) := by decide +kernel
theorem dX3_hears_29 : decode cX3_hears 29 = .ok (.bipush (-9), 2) := by decide +kernel
theorem dX3_hears_31 : decode cX3_hears 31 = .ok (.bipush (-9), 2) := by decide +kernel
theorem dX3_hears_33 : decode cX3_hears 33 = .ok (.invokevirtual 144, 3) := by decide +kernel
theorem dX3_hears_36 : decode cX3_hears 36 = .ok (.ifCond .eq 15, 3) := by decide +kernel
theorem dX3_hears_39 : decode cX3_hears 39 = .ok (.aload_n 0, 1) := by decide +kernel
theorem dX3_hears_40 : decode cX3_hears 40 = .ok (.getfield 29, 3) := by decide +kernel
theorem dX3_hears_43 : decode cX3_hears 43 = .ok (.getfield 147, 3) := by decide +kernel
theorem dX3_hears_46 : decode cX3_hears 46 = .ok (.iconst 1, 1) := by decide +kernel
theorem dX3_hears_47 : decode cX3_hears 47 = .ok (.isub, 1) := by decide +kernel
theorem dX3_hears_48 : decode cX3_hears 48 = .ok (.goto 5, 3) := by decide +kernel
theorem dX3_hears_51 : decode cX3_hears 51 = .ok (.bipush (-3), 2) := by decide +kernel
theorem dX3_hears_53 : decode cX3_hears 53 = .ok (.ireturn, 1) := by decide +kernel
theorem dX3_says_0 : decode cX3_says 0 = .ok (.aload_n 0, 1) := by decide +kernel
theorem dX3_says_1 : decode cX3_says 1 = .ok (.getfield 19, 3) := by decide +kernel
theorem dX3_says_4 : decode cX3_says 4 = .ok (.iload_n 1, 1) := by decide +kernel
theorem dX3_says_5 : decode cX3_says 5 = .ok (.invokevirtual 97, 3) := by decide +kernel
theorem dX3_says_8 : decode cX3_says 8 = .ok (.ifCond .eq 25, 3) := by decide +kernel
theorem dX3_says_11 : decode cX3_says 11 = .ok (.aload_n 0, 1) := by decide +kernel
theorem dX3_says_12 : decode cX3_says 12 = .ok (.getfield 19, 3) := by decide +kernel
theorem dX3_says_15 : decode cX3_says 15 = .ok (.iload_n 2, 1) := by decide +kernel
theorem dX3_says_16 : decode cX3_says 16 = .ok (.invokevirtual 78, 3) := by decide +kernel
theorem dX3_says_19 : decode cX3_says 19 = .ok (.ifCond .eq 14, 3) := by decide +kernel
theorem dX3_says_22 : decode cX3_says 22 = .ok (.aload_n 0, 1) := by decide +kernel
theorem dX3_says_23 : decode cX3_says 23 = .ok (.getfield 19, 3) := by decide +kernel
theorem dX3_says_26 : decode cX3_says 26 = .ok (.iload_n 2, 1) := by decide +kernel
theorem dX3_says_27 : decode cX3_says 27 = .ok (.invokevirtual 81, 3) := by decide +kernel
theorem dX3_says_30 : decode cX3_says 30 = .ok (.ifCond .eq 5, 3) := by decide +kernel
theorem dX3_says_33 : decode cX3_says 33 = .ok (.iconst (-1), 1) := by decide +kernel
theorem dX3_says_34 : decode cX3_says 34 = .ok (.ireturn, 1) := by decide +kernel
theorem dX3_says_35 : decode cX3_says 35 = .ok (.aload_n 0, 1) := by decide +kernel
theorem dX3_says_36 : decode cX3_says 36 = .ok (.getfield 19, 3) := by decide +kernel
theorem dX3_says_39 : decode cX3_says 39 = .ok (.getfield 100, 3) := by decide +kernel
theorem dX3_says_42 : decode cX3_says 42 = .ok (.iload_n 1, 1) := by decide +kernel
theorem dX3_says_43 : decode cX3_says 43 = .ok (.iaload, 1) := by decide +kernel
theorem dX3_says_44 : decode cX3_says 44 = .ok (.iconst 1, 1) := by decide +kernel
theorem dX3_says_45 : decode cX3_says 45 = .ok (.iload_n 2, 1) := by decide +kernel
theorem dX3_says_46 : decode cX3_says 46 = .ok (.ishl, 1) := by decide +kernel
theorem dX3_says_47 : decode cX3_says 47 = .ok (.iand, 1) := by decide +kernel
theorem dX3_says_48 : decode cX3_says 48 = .ok (.ifCond .ne 6, 3) := by decide +kernel
theorem dX3_says_51 : decode cX3_says 51 = .ok (.bipush (-2), 2) := by decide +kernel
theorem dX3_says_53 : decode cX3_says 53 = .ok (.ireturn, 1) := by decide +kernel
theorem dX3_says_54 : decode cX3_says 54 = .ok (.aload_n 0, 1) := by decide +kernel
theorem dX3_says_55 : decode cX3_says 55 = .ok (.getfield 29, 3) := by decide +kernel
theorem dX3_says_58 : decode cX3_says 58 = .ok (.aload_n 0, 1) := by decide +kernel
theorem dX3_says_59 : decode cX3_says 59 = .ok (.getfield 19, 3) := by decide +kernel
theorem dX3_says_62 : decode cX3_says 62 = .ok (.getfield 87, 3) := by decide +kernel
theorem dX3_says_65 : decode cX3_says 65 = .ok (.iload_n 2, 1) := by decide +kernel
theorem dX3_says_66 : decode cX3_says 66 = .ok (.iaload, 1) := by decide +kernel
theorem dX3_says_67 : decode cX3_says 67 = .ok (.aload_n 0, 1) := by decide +kernel
theorem dX3_says_68 : decode cX3_says 68 = .ok (.getfield 19, 3) := by decide +kernel
theorem dX3_says_71 : decode cX3_says 71 = .ok (.getfield 137, 3) := by decide +kernel
theorem dX3_says_74 : decode cX3_says 74 = .ok (.invokevirtual 150, 3) := by decide +kernel
theorem dX3_says_77 : decode cX3_says 77 = .ok (.istore_n 3, 1) := by decide +kernel
theorem dX3_says_78 : decode cX3_says 78 = .ok (.iload_n 3, 1) := by decide +kernel
theorem dX3_says_79 : decode cX3_says 79 = .ok (.bipush (-9), 2) := by decide +kernel
theorem dX3_says_81 : decode cX3_says 81 = .ok (.if_icmp .ne 6, 3) := by decide +kernel
theorem dX3_says_84 : decode cX3_says 84 = .ok (.bipush (-2), 2) := by decide +kernel
theorem dX3_says_86 : decode cX3_says 86 = .ok (.ireturn, 1) := by decide +kernel
theorem dX3_says_87 : decode cX3_says 87 = .ok (.aload_n 0, 1) := by decide +kernel
theorem dX3_says_88 : decode cX3_says 88 = .ok (.getfield 29, 3) := by decide +kernel
theorem dX3_says_91 : decode cX3_says 91 = .ok (.iload_n 2, 1) := by decide +kernel
theorem dX3_says_92 : decode cX3_says 92 = .ok (.iload_n 1, 1) := by decide +kernel
theorem dX3_says_93 : decode cX3_says 93 = .ok (.iload_n 3, 1) := by decide +kernel
theorem dX3_says_94 : decode cX3_says 94 = .ok (.invokevirtual 144, 3) := by decide +kernel
theorem dX3_says_97 : decode cX3_says 97 = .ok (.ifCond .eq 7, 3) := by decide +kernel
theorem dX3_says_100 : decode cX3_says 100 = .ok (.iload_n 3, 1) := by decide +kernel
theorem dX3_says_101 : decode cX3_says 101 = .ok (.goto 5, 3) := by decide +kernel
theorem dX3_says_104 : decode cX3_says 104 = .ok (.bipush (-3), 2) := by decide +kernel
theorem dX3_says_106 : decode cX3_says 106 = .ok (.ireturn, 1) := by decide +kernel
theorem dX3_hour_0 : decode cX3_hour 0 = .ok (.aload_n 0, 1) := by decide +kernel
theorem dX3_hour_1 : decode cX3_hour 1 = .ok (.getfield 29, 3) := by decide +kernel
theorem dX3_hour_4 : decode cX3_hour 4 = .ok (.invokevirtual 154, 3) := by decide +kernel
theorem dX3_hour_7 : decode cX3_hour 7 = .ok (.ifCond .eq 13, 3) := by decide +kernel
theorem dX3_hour_10 : decode cX3_hour 10 = .ok (.aload_n 0, 1) := by decide +kernel
theorem dX3_hour_11 : decode cX3_hour 11 = .ok (.getfield 29, 3) := by decide +kernel
theorem dX3_hour_14 : decode cX3_hour 14 = .ok (.getfield 158, 3) := by decide +kernel
theorem dX3_hour_17 : decode cX3_hour 17 = .ok (.goto 5, 3) := by decide +kernel
theorem dX3_hour_20 : decode cX3_hour 20 = .ok (.bipush (-2), 2) := by decide +kernel
theorem dX3_hour_22 : decode cX3_hour 22 = .ok (.ireturn, 1) := by decide +kernel
theorem dX3_undo_0 : decode cX3_undo 0 = .ok (.aload_n 0, 1) := by decide +kernel
theorem dX3_undo_1 : decode cX3_undo 1 = .ok (.getfield 29, 3) := by decide +kernel
theorem dX3_undo_4 : decode cX3_undo 4 = .ok (.invokevirtual 161, 3) := by decide +kernel
theorem dX3_undo_7 : decode cX3_undo 7 = .ok (.ifCond .eq 13, 3) := by decide +kernel
theorem dX3_undo_10 : decode cX3_undo 10 = .ok (.aload_n 0, 1) := by decide +kernel
theorem dX3_undo_11 : decode cX3_undo 11 = .ok (.getfield 29, 3) := by decide +kernel
theorem dX3_undo_14 : decode cX3_undo 14 = .ok (.getfield 164, 3) := by decide +kernel
theorem dX3_undo_17 : decode cX3_undo 17 = .ok (.goto 5, 3) := by decide +kernel
theorem dX3_undo_20 : decode cX3_undo 20 = .ok (.bipush (-2), 2) := by decide +kernel
theorem dX3_undo_22 : decode cX3_undo 22 = .ok (.ireturn, 1) := by decide +kernel
theorem dX3_now_0 : decode cX3_now 0 = .ok (.iload_n 1, 1) := by decide +kernel
theorem dX3_now_1 : decode cX3_now 1 = .ok (.tableswitch 105 0 7 #[47, 55, 63, 68, 76, 84, 92, 100], 47) := by decide +kernel
theorem dX3_now_48 : decode cX3_now 48 = .ok (.aload_n 0, 1) := by decide +kernel
theorem dX3_now_49 : decode cX3_now 49 = .ok (.getfield 29, 3) := by decide +kernel
theorem dX3_now_52 : decode cX3_now 52 = .ok (.getfield 158, 3) := by decide +kernel
theorem dX3_now_55 : decode cX3_now 55 = .ok (.ireturn, 1) := by decide +kernel
theorem dX3_now_56 : decode cX3_now 56 = .ok (.aload_n 0, 1) := by decide +kernel
theorem dX3_now_57 : decode cX3_now 57 = .ok (.getfield 29, 3) := by decide +kernel
theorem dX3_now_60 : decode cX3_now 60 = .ok (.getfield 147, 3) := by decide +kernel
theorem dX3_now_63 : decode cX3_now 63 = .ok (.ireturn, 1) := by decide +kernel
theorem dX3_now_64 : decode cX3_now 64 = .ok (.aload_n 0, 1) := by decide +kernel
theorem dX3_now_65 : decode cX3_now 65 = .ok (.invokevirtual 103, 3) := by decide +kernel
theorem dX3_now_68 : decode cX3_now 68 = .ok (.ireturn, 1) := by decide +kernel
theorem dX3_now_69 : decode cX3_now 69 = .ok (.aload_n 0, 1) := by decide +kernel
theorem dX3_now_70 : decode cX3_now 70 = .ok (.getfield 29, 3) := by decide +kernel
theorem dX3_now_73 : decode cX3_now 73 = .ok (.invokevirtual 167, 3) := by decide +kernel
theorem dX3_now_76 : decode cX3_now 76 = .ok (.ireturn, 1) := by decide +kernel
theorem dX3_now_77 : decode cX3_now 77 = .ok (.aload_n 0, 1) := by decide +kernel
theorem dX3_now_78 : decode cX3_now 78 = .ok (.getfield 29, 3) := by decide +kernel
theorem dX3_now_81 : decode cX3_now 81 = .ok (.invokevirtual 170, 3) := by decide +kernel
theorem dX3_now_84 : decode cX3_now 84 = .ok (.ireturn, 1) := by decide +kernel
theorem dX3_now_85 : decode cX3_now 85 = .ok (.aload_n 0, 1) := by decide +kernel
theorem dX3_now_86 : decode cX3_now 86 = .ok (.getfield 29, 3) := by decide +kernel
theorem dX3_now_89 : decode cX3_now 89 = .ok (.invokevirtual 173, 3) := by decide +kernel
theorem dX3_now_92 : decode cX3_now 92 = .ok (.ireturn, 1) := by decide +kernel
theorem dX3_now_93 : decode cX3_now 93 = .ok (.aload_n 0, 1) := by decide +kernel
theorem dX3_now_94 : decode cX3_now 94 = .ok (.getfield 29, 3) := by decide +kernel
theorem dX3_now_97 : decode cX3_now 97 = .ok (.invokevirtual 176, 3) := by decide +kernel
theorem dX3_now_100 : decode cX3_now 100 = .ok (.ireturn, 1) := by decide +kernel
theorem dX3_now_101 : decode cX3_now 101 = .ok (.aload_n 0, 1) := by decide +kernel
theorem dX3_now_102 : decode cX3_now 102 = .ok (.invokevirtual 179, 3) := by decide +kernel
theorem dX3_now_105 : decode cX3_now 105 = .ok (.ireturn, 1) := by decide +kernel
theorem dX3_now_106 : decode cX3_now 106 = .ok (.iconst (-1), 1) := by decide +kernel
theorem dX3_now_107 : decode cX3_now 107 = .ok (.ireturn, 1) := by decide +kernel
theorem dX3_worth_0 : decode cX3_worth 0 = .ok (.aload_n 0, 1) := by decide +kernel
theorem dX3_worth_1 : decode cX3_worth 1 = .ok (.getfield 29, 3) := by decide +kernel
theorem dX3_worth_4 : decode cX3_worth 4 = .ok (.iload_n 1, 1) := by decide +kernel
theorem dX3_worth_5 : decode cX3_worth 5 = .ok (.invokevirtual 113, 3) := by decide +kernel
theorem dX3_worth_8 : decode cX3_worth 8 = .ok (.ifCond .eq 16, 3) := by decide +kernel
theorem dX3_worth_11 : decode cX3_worth 11 = .ok (.aload_n 0, 1) := by decide +kernel
theorem dX3_worth_12 : decode cX3_worth 12 = .ok (.getfield 29, 3) := by decide +kernel
theorem dX3_worth_15 : decode cX3_worth 15 = .ok (.getfield 128, 3) := by decide +kernel
theorem dX3_worth_18 : decode cX3_worth 18 = .ok (.iload_n 1, 1) := by decide +kernel
theorem dX3_worth_19 : decode cX3_worth 19 = .ok (.iaload, 1) := by decide +kernel
theorem dX3_worth_20 : decode cX3_worth 20 = .ok (.iload_n 1, 1) := by decide +kernel
theorem dX3_worth_21 : decode cX3_worth 21 = .ok (.if_icmp .eq 5, 3) := by decide +kernel
theorem dX3_worth_24 : decode cX3_worth 24 = .ok (.iconst (-1), 1) := by decide +kernel
theorem dX3_worth_25 : decode cX3_worth 25 = .ok (.ireturn, 1) := by decide +kernel
theorem dX3_worth_26 : decode cX3_worth 26 = .ok (.iconst 0, 1) := by decide +kernel
theorem dX3_worth_27 : decode cX3_worth 27 = .ok (.istore_n 2, 1) := by decide +kernel
theorem dX3_worth_28 : decode cX3_worth 28 = .ok (.iconst 0, 1) := by decide +kernel
theorem dX3_worth_29 : decode cX3_worth 29 = .ok (.istore_n 3, 1) := by decide +kernel
theorem dX3_worth_30 : decode cX3_worth 30 = .ok (.iload_n 3, 1) := by decide +kernel
theorem dX3_worth_31 : decode cX3_worth 31 = .ok (.aload_n 0, 1) := by decide +kernel
theorem dX3_worth_32 : decode cX3_worth 32 = .ok (.getfield 29, 3) := by decide +kernel
theorem dX3_worth_35 : decode cX3_worth 35 = .ok (.getfield 147, 3) := by decide +kernel
theorem dX3_worth_38 : decode cX3_worth 38 = .ok (.if_icmp .ge 47, 3) := by decide +kernel
theorem dX3_worth_41 : decode cX3_worth 41 = .ok (.iload_n 3, 1) := by decide +kernel
theorem dX3_worth_42 : decode cX3_worth 42 = .ok (.bipush 30, 2) := by decide +kernel
theorem dX3_worth_44 : decode cX3_worth 44 = .ok (.if_icmp .ge 41, 3) := by decide +kernel
theorem dX3_worth_47 : decode cX3_worth 47 = .ok (.aload_n 0, 1) := by decide +kernel
theorem dX3_worth_48 : decode cX3_worth 48 = .ok (.getfield 29, 3) := by decide +kernel
theorem dX3_worth_51 : decode cX3_worth 51 = .ok (.getfield 128, 3) := by decide +kernel
theorem dX3_worth_54 : decode cX3_worth 54 = .ok (.iload_n 3, 1) := by decide +kernel
theorem dX3_worth_55 : decode cX3_worth 55 = .ok (.iaload, 1) := by decide +kernel
theorem dX3_worth_56 : decode cX3_worth 56 = .ok (.iload_n 1, 1) := by decide +kernel
theorem dX3_worth_57 : decode cX3_worth 57 = .ok (.if_icmp .ne 22, 3) := by decide +kernel
theorem dX3_worth_60 : decode cX3_worth 60 = .ok (.iload_n 2, 1) := by decide +kernel
theorem dX3_worth_61 : decode cX3_worth 61 = .ok (.aload_n 0, 1) := by decide +kernel
theorem dX3_worth_62 : decode cX3_worth 62 = .ok (.getfield 19, 3) := by decide +kernel
theorem dX3_worth_65 : decode cX3_worth 65 = .ok (.aload_n 0, 1) := by decide +kernel
theorem dX3_worth_66 : decode cX3_worth 66 = .ok (.getfield 29, 3) := by decide +kernel
theorem dX3_worth_69 : decode cX3_worth 69 = .ok (.getfield 116, 3) := by decide +kernel
theorem dX3_worth_72 : decode cX3_worth 72 = .ok (.iload_n 3, 1) := by decide +kernel
theorem dX3_worth_73 : decode cX3_worth 73 = .ok (.iaload, 1) := by decide +kernel
theorem dX3_worth_74 : decode cX3_worth 74 = .ok (.invokevirtual 182, 3) := by decide +kernel
theorem dX3_worth_77 : decode cX3_worth 77 = .ok (.iadd, 1) := by decide +kernel
theorem dX3_worth_78 : decode cX3_worth 78 = .ok (.istore_n 2, 1) := by decide +kernel
theorem dX3_worth_79 : decode cX3_worth 79 = .ok (.iinc 3 1, 3) := by decide +kernel
theorem dX3_worth_82 : decode cX3_worth 82 = .ok (.goto (-52), 3) := by decide +kernel
theorem dX3_worth_85 : decode cX3_worth 85 = .ok (.iload_n 2, 1) := by decide +kernel
theorem dX3_worth_86 : decode cX3_worth 86 = .ok (.ireturn, 1) := by decide +kernel
theorem dX3_thereNow_0 : decode cX3_thereNow 0 = .ok (.aload_n 0, 1) := by decide +kernel
theorem dX3_thereNow_1 : decode cX3_thereNow 1 = .ok (.getfield 29, 3) := by decide +kernel
theorem dX3_thereNow_4 : decode cX3_thereNow 4 = .ok (.iconst 0, 1) := by decide +kernel
theorem dX3_thereNow_5 : decode cX3_thereNow 5 = .ok (.aload_n 0, 1) := by decide +kernel
theorem dX3_thereNow_6 : decode cX3_thereNow 6 = .ok (.getfield 19, 3) := by decide +kernel
theorem dX3_thereNow_9 : decode cX3_thereNow 9 = .ok (.getfield 137, 3) := by decide +kernel
theorem dX3_thereNow_12 : decode cX3_thereNow 12 = .ok (.invokevirtual 185, 3) := by decide +kernel
theorem dX3_thereNow_15 : decode cX3_thereNow 15 = .ok (.ireturn, 1) := by decide +kernel
theorem dX3_hoursToSilence_0 : decode cX3_hoursToSilence 0 = .ok (.iconst 0, 1) := by decide +kernel
theorem dX3_hoursToSilence_1 : decode cX3_hoursToSilence 1 = .ok (.istore_n 1, 1) := by decide +kernel
theorem dX3_hoursToSilence_2 : decode cX3_hoursToSilence 2 = .ok (.iload_n 1, 1) := by decide +kernel
theorem dX3_hoursToSilence_3 : decode cX3_hoursToSilence 3 = .ok (.bipush 9, 2) := by decide +kernel
theorem dX3_hoursToSilence_5 : decode cX3_hoursToSilence 5 = .ok (.if_icmp .gt 36, 3) := by decide +kernel
theorem dX3_hoursToSilence_8 : decode cX3_hoursToSilence 8 = .ok (.aload_n 0, 1) := by decide +kernel
theorem dX3_hoursToSilence_9 : decode cX3_hoursToSilence 9 = .ok (.getfield 19, 3) := by decide +kernel
theorem dX3_hoursToSilence_12 : decode cX3_hoursToSilence 12 = .ok (.aload_n 0, 1) := by decide +kernel
theorem dX3_hoursToSilence_13 : decode cX3_hoursToSilence 13 = .ok (.getfield 29, 3) := by decide +kernel
theorem dX3_hoursToSilence_16 : decode cX3_hoursToSilence 16 = .ok (.iload_n 1, 1) := by decide +kernel
theorem dX3_hoursToSilence_17 : decode cX3_hoursToSilence 17 = .ok (.aload_n 0, 1) := by decide +kernel
theorem dX3_hoursToSilence_18 : decode cX3_hoursToSilence 18 = .ok (.getfield 19, 3) := by decide +kernel
theorem dX3_hoursToSilence_21 : decode cX3_hoursToSilence 21 = .ok (.getfield 137, 3) := by decide +kernel
theorem dX3_hoursToSilence_24 : decode cX3_hoursToSilence 24 = .ok (.invokevirtual 185, 3) := by decide +kernel
theorem dX3_hoursToSilence_27 : decode cX3_hoursToSilence 27 = .ok (.invokevirtual 107, 3) := by decide +kernel
theorem dX3_hoursToSilence_30 : decode cX3_hoursToSilence 30 = .ok (.ifCond .ne 5, 3) := by decide +kernel
theorem dX3_hoursToSilence_33 : decode cX3_hoursToSilence 33 = .ok (.iload_n 1, 1) := by decide +kernel
theorem dX3_hoursToSilence_34 : decode cX3_hoursToSilence 34 = .ok (.ireturn, 1) := by decide +kernel
theorem dX3_hoursToSilence_35 : decode cX3_hoursToSilence 35 = .ok (.iinc 1 1, 3) := by decide +kernel
theorem dX3_hoursToSilence_38 : decode cX3_hoursToSilence 38 = .ok (.goto (-36), 3) := by decide +kernel
theorem dX3_hoursToSilence_41 : decode cX3_hoursToSilence 41 = .ok (.bipush (-9), 2) := by decide +kernel
theorem dX3_hoursToSilence_43 : decode cX3_hoursToSilence 43 = .ok (.ireturn, 1) := by decide +kernel
theorem dX3_chain_0 : decode cX3_chain 0 = .ok (.aload_n 0, 1) := by decide +kernel
theorem dX3_chain_1 : decode cX3_chain 1 = .ok (.getfield 19, 3) := by decide +kernel
theorem dX3_chain_4 : decode cX3_chain 4 = .ok (.iload_n 1, 1) := by decide +kernel
theorem dX3_chain_5 : decode cX3_chain 5 = .ok (.invokevirtual 78, 3) := by decide +kernel
theorem dX3_chain_8 : decode cX3_chain 8 = .ok (.ifCond .eq 8, 3) := by decide +kernel
theorem dX3_chain_11 : decode cX3_chain 11 = .ok (.iload_n 2, 1) := by decide +kernel
theorem dX3_chain_12 : decode cX3_chain 12 = .ok (.iconst (-1), 1) := by decide +kernel
theorem dX3_chain_13 : decode cX3_chain 13 = .ok (.if_icmp .ge 5, 3) := by decide +kernel
theorem dX3_chain_16 : decode cX3_chain 16 = .ok (.iconst (-1), 1) := by decide +kernel
theorem dX3_chain_17 : decode cX3_chain 17 = .ok (.ireturn, 1) := by decide +kernel
theorem dX3_chain_18 : decode cX3_chain 18 = .ok (.aload_n 0, 1) := by decide +kernel
theorem dX3_chain_19 : decode cX3_chain 19 = .ok (.getfield 19, 3) := by decide +kernel
theorem dX3_chain_22 : decode cX3_chain 22 = .ok (.aload_n 0, 1) := by decide +kernel
theorem dX3_chain_23 : decode cX3_chain 23 = .ok (.invokevirtual 103, 3) := by decide +kernel
theorem dX3_chain_26 : decode cX3_chain 26 = .ok (.invokevirtual 107, 3) := by decide +kernel
theorem dX3_chain_29 : decode cX3_chain 29 = .ok (.istore_n 3, 1) := by decide +kernel
theorem dX3_chain_30 : decode cX3_chain 30 = .ok (.aload_n 0, 1) := by decide +kernel
theorem dX3_chain_31 : decode cX3_chain 31 = .ok (.iload_n 1, 1) := by decide +kernel
theorem dX3_chain_32 : decode cX3_chain 32 = .ok (.iload_n 3, 1) := by decide +kernel
theorem dX3_chain_33 : decode cX3_chain 33 = .ok (.invokevirtual 188, 3) := by decide +kernel
theorem dX3_chain_36 : decode cX3_chain 36 = .ok (.istore 4, 2) := by decide +kernel
theorem dX3_chain_38 : decode cX3_chain 38 = .ok (.iload 4, 2) := by decide +kernel
theorem dX3_chain_40 : decode cX3_chain 40 = .ok (.bipush (-9), 2) := by decide +kernel
theorem dX3_chain_42 : decode cX3_chain 42 = .ok (.if_icmp .eq 8, 3) := by decide +kernel
theorem dX3_chain_45 : decode cX3_chain 45 = .ok (.iload_n 2, 1) := by decide +kernel
theorem dX3_chain_46 : decode cX3_chain 46 = .ok (.iconst (-1), 1) := by decide +kernel
theorem dX3_chain_47 : decode cX3_chain 47 = .ok (.if_icmp .ne 6, 3) := by decide +kernel
theorem dX3_chain_50 : decode cX3_chain 50 = .ok (.iload 4, 2) := by decide +kernel
theorem dX3_chain_52 : decode cX3_chain 52 = .ok (.ireturn, 1) := by decide +kernel
theorem dX3_chain_53 : decode cX3_chain 53 = .ok (.iload_n 2, 1) := by decide +kernel
theorem dX3_chain_54 : decode cX3_chain 54 = .ok (.iload 4, 2) := by decide +kernel
theorem dX3_chain_56 : decode cX3_chain 56 = .ok (.if_icmp .ge 14, 3) := by decide +kernel
theorem dX3_chain_59 : decode cX3_chain 59 = .ok (.aload_n 0, 1) := by decide +kernel
theorem dX3_chain_60 : decode cX3_chain 60 = .ok (.iload 4, 2) := by decide +kernel
theorem dX3_chain_62 : decode cX3_chain 62 = .ok (.iload_n 2, 1) := by decide +kernel
theorem dX3_chain_63 : decode cX3_chain 63 = .ok (.iload_n 3, 1) := by decide +kernel
theorem dX3_chain_64 : decode cX3_chain 64 = .ok (.invokevirtual 191, 3) := by decide +kernel
theorem dX3_chain_67 : decode cX3_chain 67 = .ok (.goto 5, 3) := by decide +kernel
theorem dX3_chain_70 : decode cX3_chain 70 = .ok (.bipush (-9), 2) := by decide +kernel
theorem dX3_chain_72 : decode cX3_chain 72 = .ok (.ireturn, 1) := by decide +kernel
theorem dX3_chainLength_0 : decode cX3_chainLength 0 = .ok (.aload_n 0, 1) := by decide +kernel
theorem dX3_chainLength_1 : decode cX3_chainLength 1 = .ok (.getfield 19, 3) := by decide +kernel
theorem dX3_chainLength_4 : decode cX3_chainLength 4 = .ok (.getfield 195, 3) := by decide +kernel
theorem dX3_chainLength_7 : decode cX3_chainLength 7 = .ok (.iconst 1, 1) := by decide +kernel
theorem dX3_chainLength_8 : decode cX3_chainLength 8 = .ok (.iload_n 1, 1) := by decide +kernel
theorem dX3_chainLength_9 : decode cX3_chainLength 9 = .ok (.ishl, 1) := by decide +kernel
theorem dX3_chainLength_10 : decode cX3_chainLength 10 = .ok (.iand, 1) := by decide +kernel
theorem dX3_chainLength_11 : decode cX3_chainLength 11 = .ok (.istore_n 3, 1) := by decide +kernel
theorem dX3_chainLength_12 : decode cX3_chainLength 12 = .ok (.iconst 0, 1) := by decide +kernel
theorem dX3_chainLength_13 : decode cX3_chainLength 13 = .ok (.istore 4, 2) := by decide +kernel
theorem dX3_chainLength_15 : decode cX3_chainLength 15 = .ok (.iload 4, 2) := by decide +kernel
theorem dX3_chainLength_17 : decode cX3_chainLength 17 = .ok (.bipush 8, 2) := by decide +kernel
theorem dX3_chainLength_19 : decode cX3_chainLength 19 = .ok (.if_icmp .ge 45, 3) := by decide +kernel
theorem dX3_chainLength_22 : decode cX3_chainLength 22 = .ok (.aload_n 0, 1) := by decide +kernel
theorem dX3_chainLength_23 : decode cX3_chainLength 23 = .ok (.getfield 47, 3) := by decide +kernel
theorem dX3_chainLength_26 : decode cX3_chainLength 26 = .ok (.iload 4, 2) := by decide +kernel
theorem dX3_chainLength_28 : decode cX3_chainLength 28 = .ok (.iload_n 3, 1) := by decide +kernel
theorem dX3_chainLength_29 : decode cX3_chainLength 29 = .ok (.iastore, 1) := by decide +kernel
theorem dX3_chainLength_30 : decode cX3_chainLength 30 = .ok (.iload_n 3, 1) := by decide +kernel
theorem dX3_chainLength_31 : decode cX3_chainLength 31 = .ok (.iload_n 2, 1) := by decide +kernel
theorem dX3_chainLength_32 : decode cX3_chainLength 32 = .ok (.iand, 1) := by decide +kernel
theorem dX3_chainLength_33 : decode cX3_chainLength 33 = .ok (.ifCond .eq 8, 3) := by decide +kernel
theorem dX3_chainLength_36 : decode cX3_chainLength 36 = .ok (.iload 4, 2) := by decide +kernel
theorem dX3_chainLength_38 : decode cX3_chainLength 38 = .ok (.iconst 1, 1) := by decide +kernel
theorem dX3_chainLength_39 : decode cX3_chainLength 39 = .ok (.iadd, 1) := by decide +kernel
theorem dX3_chainLength_40 : decode cX3_chainLength 40 = .ok (.ireturn, 1) := by decide +kernel
theorem dX3_chainLength_41 : decode cX3_chainLength 41 = .ok (.aload_n 0, 1) := by decide +kernel
theorem dX3_chainLength_42 : decode cX3_chainLength 42 = .ok (.getfield 19, 3) := by decide +kernel
theorem dX3_chainLength_45 : decode cX3_chainLength 45 = .ok (.iload_n 3, 1) := by decide +kernel
theorem dX3_chainLength_46 : decode cX3_chainLength 46 = .ok (.invokevirtual 198, 3) := by decide +kernel
theorem dX3_chainLength_49 : decode cX3_chainLength 49 = .ok (.aload_n 0, 1) := by decide +kernel
theorem dX3_chainLength_50 : decode cX3_chainLength 50 = .ok (.getfield 19, 3) := by decide +kernel
theorem dX3_chainLength_53 : decode cX3_chainLength 53 = .ok (.getfield 195, 3) := by decide +kernel
theorem dX3_chainLength_56 : decode cX3_chainLength 56 = .ok (.iand, 1) := by decide +kernel
theorem dX3_chainLength_57 : decode cX3_chainLength 57 = .ok (.istore_n 3, 1) := by decide +kernel
theorem dX3_chainLength_58 : decode cX3_chainLength 58 = .ok (.iinc 4 1, 3) := by decide +kernel
theorem dX3_chainLength_61 : decode cX3_chainLength 61 = .ok (.goto (-46), 3) := by decide +kernel
theorem dX3_chainLength_64 : decode cX3_chainLength 64 = .ok (.bipush (-9), 2) := by decide +kernel
theorem dX3_chainLength_66 : decode cX3_chainLength 66 = .ok (.ireturn, 1) := by decide +kernel
theorem dX3_chainStep_0 : decode cX3_chainStep 0 = .ok (.iload_n 3, 1) := by decide +kernel
theorem dX3_chainStep_1 : decode cX3_chainStep 1 = .ok (.istore 4, 2) := by decide +kernel
theorem dX3_chainStep_3 : decode cX3_chainStep 3 = .ok (.bipush (-9), 2) := by decide +kernel
theorem dX3_chainStep_5 : decode cX3_chainStep 5 = .ok (.istore 5, 2) := by decide +kernel
theorem dX3_chainStep_7 : decode cX3_chainStep 7 = .ok (.iconst 0, 1) := by decide +kernel
theorem dX3_chainStep_8 : decode cX3_chainStep 8 = .ok (.istore 6, 2) := by decide +kernel
theorem dX3_chainStep_10 : decode cX3_chainStep 10 = .ok (.iload 6, 2) := by decide +kernel
theorem dX3_chainStep_12 : decode cX3_chainStep 12 = .ok (.iload_n 2, 1) := by decide +kernel
theorem dX3_chainStep_13 : decode cX3_chainStep 13 = .ok (.if_icmp .gt 53, 3) := by decide +kernel
theorem dX3_chainStep_16 : decode cX3_chainStep 16 = .ok (.iload 6, 2) := by decide +kernel
theorem dX3_chainStep_18 : decode cX3_chainStep 18 = .ok (.iload_n 1, 1) := by decide +kernel
theorem dX3_chainStep_19 : decode cX3_chainStep 19 = .ok (.if_icmp .ge 47, 3) := by decide +kernel
theorem dX3_chainStep_22 : decode cX3_chainStep 22 = .ok (.iload_n 1, 1) := by decide +kernel
theorem dX3_chainStep_23 : decode cX3_chainStep 23 = .ok (.bipush 8, 2) := by decide +kernel
theorem dX3_chainStep_25 : decode cX3_chainStep 25 = .ok (.if_icmp .gt 41, 3) := by decide +kernel
theorem dX3_chainStep_28 : decode cX3_chainStep 28 = .ok (.iload 4, 2) := by decide +kernel
theorem dX3_chainStep_30 : decode cX3_chainStep 30 = .ok (.aload_n 0, 1) := by decide +kernel
theorem dX3_chainStep_31 : decode cX3_chainStep 31 = .ok (.getfield 47, 3) := by decide +kernel
theorem dX3_chainStep_34 : decode cX3_chainStep 34 = .ok (.iload_n 1, 1) := by decide +kernel
theorem dX3_chainStep_35 : decode cX3_chainStep 35 = .ok (.iconst 1, 1) := by decide +kernel
theorem dX3_chainStep_36 : decode cX3_chainStep 36 = .ok (.isub, 1) := by decide +kernel
theorem dX3_chainStep_37 : decode cX3_chainStep 37 = .ok (.iload 6, 2) := by decide +kernel
theorem dX3_chainStep_39 : decode cX3_chainStep 39 = .ok (.isub, 1) := by decide +kernel
theorem dX3_chainStep_40 : decode cX3_chainStep 40 = .ok (.iaload, 1) := by decide +kernel
theorem dX3_chainStep_41 : decode cX3_chainStep 41 = .ok (.iand, 1) := by decide +kernel
theorem dX3_chainStep_42 : decode cX3_chainStep 42 = .ok (.invokestatic 201, 3) := by decide +kernel
theorem dX3_chainStep_45 : decode cX3_chainStep 45 = .ok (.istore 5, 2) := by decide +kernel
theorem dX3_chainStep_47 : decode cX3_chainStep 47 = .ok (.aload_n 0, 1) := by decide +kernel
theorem dX3_chainStep_48 : decode cX3_chainStep 48 = .ok (.getfield 19, 3) := by decide +kernel
theorem dX3_chainStep_51 : decode cX3_chainStep 51 = .ok (.iconst 1, 1) := by decide +kernel
theorem dX3_chainStep_52 : decode cX3_chainStep 52 = .ok (.iload 5, 2) := by decide +kernel
theorem dX3_chainStep_54 : decode cX3_chainStep 54 = .ok (.ishl, 1) := by decide +kernel
theorem dX3_chainStep_55 : decode cX3_chainStep 55 = .ok (.invokevirtual 107, 3) := by decide +kernel
theorem dX3_chainStep_58 : decode cX3_chainStep 58 = .ok (.istore 4, 2) := by decide +kernel
theorem dX3_chainStep_60 : decode cX3_chainStep 60 = .ok (.iinc 6 1, 3) := by decide +kernel
theorem dX3_chainStep_63 : decode cX3_chainStep 63 = .ok (.goto (-53), 3) := by decide +kernel
theorem dX3_chainStep_66 : decode cX3_chainStep 66 = .ok (.iload 5, 2) := by decide +kernel
theorem dX3_chainStep_68 : decode cX3_chainStep 68 = .ok (.ireturn, 1) := by decide +kernel
theorem dX3_lowest_0 : decode cX3_lowest 0 = .ok (.iconst 0, 1) := by decide +kernel
theorem dX3_lowest_1 : decode cX3_lowest 1 = .ok (.istore_n 1, 1) := by decide +kernel
theorem dX3_lowest_2 : decode cX3_lowest 2 = .ok (.iload_n 1, 1) := by decide +kernel
theorem dX3_lowest_3 : decode cX3_lowest 3 = .ok (.bipush 8, 2) := by decide +kernel
theorem dX3_lowest_5 : decode cX3_lowest 5 = .ok (.if_icmp .ge 19, 3) := by decide +kernel
theorem dX3_lowest_8 : decode cX3_lowest 8 = .ok (.iload_n 0, 1) := by decide +kernel
theorem dX3_lowest_9 : decode cX3_lowest 9 = .ok (.iconst 1, 1) := by decide +kernel
theorem dX3_lowest_10 : decode cX3_lowest 10 = .ok (.iload_n 1, 1) := by decide +kernel
theorem dX3_lowest_11 : decode cX3_lowest 11 = .ok (.ishl, 1) := by decide +kernel
theorem dX3_lowest_12 : decode cX3_lowest 12 = .ok (.iand, 1) := by decide +kernel
theorem dX3_lowest_13 : decode cX3_lowest 13 = .ok (.ifCond .eq 5, 3) := by decide +kernel
theorem dX3_lowest_16 : decode cX3_lowest 16 = .ok (.iload_n 1, 1) := by decide +kernel
theorem dX3_lowest_17 : decode cX3_lowest 17 = .ok (.ireturn, 1) := by decide +kernel
theorem dX3_lowest_18 : decode cX3_lowest 18 = .ok (.iinc 1 1, 3) := by decide +kernel
theorem dX3_lowest_21 : decode cX3_lowest 21 = .ok (.goto (-19), 3) := by decide +kernel
theorem dX3_lowest_24 : decode cX3_lowest 24 = .ok (.bipush (-9), 2) := by decide +kernel
theorem dX3_lowest_26 : decode cX3_lowest 26 = .ok (.ireturn, 1) := by decide +kernel
theorem dX3_sounds_0 : decode cX3_sounds 0 = .ok (.aload_n 0, 1) := by decide +kernel
theorem dX3_sounds_1 : decode cX3_sounds 1 = .ok (.getfield 19, 3) := by decide +kernel
theorem dX3_sounds_4 : decode cX3_sounds 4 = .ok (.iload_n 1, 1) := by decide +kernel
theorem dX3_sounds_5 : decode cX3_sounds 5 = .ok (.invokevirtual 204, 3) := by decide +kernel
theorem dX3_sounds_8 : decode cX3_sounds 8 = .ok (.ifCond .ne 5, 3) := by decide +kernel
theorem dX3_sounds_11 : decode cX3_sounds 11 = .ok (.iconst (-1), 1) := by decide +kernel
theorem dX3_sounds_12 : decode cX3_sounds 12 = .ok (.ireturn, 1) := by decide +kernel
theorem dX3_sounds_13 : decode cX3_sounds 13 = .ok (.aload_n 0, 1) := by decide +kernel
theorem dX3_sounds_14 : decode cX3_sounds 14 = .ok (.invokevirtual 103, 3) := by decide +kernel
theorem dX3_sounds_17 : decode cX3_sounds 17 = .ok (.istore_n 2, 1) := by decide +kernel
theorem dX3_sounds_18 : decode cX3_sounds 18 = .ok (.bipush (-9), 2) := by decide +kernel
theorem dX3_sounds_20 : decode cX3_sounds 20 = .ok (.istore_n 3, 1) := by decide +kernel
theorem dX3_sounds_21 : decode cX3_sounds 21 = .ok (.iconst 0, 1) := by decide +kernel
theorem dX3_sounds_22 : decode cX3_sounds 22 = .ok (.istore 4, 2) := by decide +kernel
theorem dX3_sounds_24 : decode cX3_sounds 24 = .ok (.iload 4, 2) := by decide +kernel
theorem dX3_sounds_26 : decode cX3_sounds 26 = .ok (.iconst 1, 1) := by decide +kernel
theorem dX3_sounds_27 : decode cX3_sounds 27 = .ok (.aload_n 0, 1) := by decide +kernel
theorem dX3_sounds_28 : decode cX3_sounds 28 = .ok (.getfield 19, 3) := by decide +kernel
theorem dX3_sounds_31 : decode cX3_sounds 31 = .ok (.getfield 207, 3) := by decide +kernel
theorem dX3_sounds_34 : decode cX3_sounds 34 = .ok (.ishl, 1) := by decide +kernel
theorem dX3_sounds_35 : decode cX3_sounds 35 = .ok (.if_icmp .ge 57, 3) := by decide +kernel
theorem dX3_sounds_38 : decode cX3_sounds 38 = .ok (.iload 4, 2) := by decide +kernel
theorem dX3_sounds_40 : decode cX3_sounds 40 = .ok (.aload_n 0, 1) := by decide +kernel
theorem dX3_sounds_41 : decode cX3_sounds 41 = .ok (.getfield 19, 3) := by decide +kernel
theorem dX3_sounds_44 : decode cX3_sounds 44 = .ok (.getfield 210, 3) := by decide +kernel
theorem dX3_sounds_47 : decode cX3_sounds 47 = .ok (.iconst (-1), 1) := by decide +kernel
theorem dX3_sounds_48 : decode cX3_sounds 48 = .ok (.ixor, 1) := by decide +kernel
theorem dX3_sounds_49 : decode cX3_sounds 49 = .ok (.iand, 1) := by decide +kernel
theorem dX3_sounds_50 : decode cX3_sounds 50 = .ok (.ifCond .ne 36, 3) := by decide +kernel
theorem dX3_sounds_53 : decode cX3_sounds 53 = .ok (.aload_n 0, 1) := by decide +kernel
theorem dX3_sounds_54 : decode cX3_sounds 54 = .ok (.iload_n 2, 1) := by decide +kernel
theorem dX3_sounds_55 : decode cX3_sounds 55 = .ok (.iload 4, 2) := by decide +kernel
theorem dX3_sounds_57 : decode cX3_sounds 57 = .ok (.ior, 1) := by decide +kernel
theorem dX3_sounds_58 : decode cX3_sounds 58 = .ok (.iload_n 1, 1) := by decide +kernel
theorem dX3_sounds_59 : decode cX3_sounds 59 = .ok (.invokevirtual 213, 3) := by decide +kernel
theorem dX3_sounds_62 : decode cX3_sounds 62 = .ok (.ifCond .eq 24, 3) := by decide +kernel
theorem dX3_sounds_65 : decode cX3_sounds 65 = .ok (.iload_n 3, 1) := by decide +kernel
theorem dX3_sounds_66 : decode cX3_sounds 66 = .ok (.bipush (-9), 2) := by decide +kernel
theorem dX3_sounds_68 : decode cX3_sounds 68 = .ok (.if_icmp .eq 15, 3) := by decide +kernel
theorem dX3_sounds_71 : decode cX3_sounds 71 = .ok (.iload 4, 2) := by decide +kernel
theorem dX3_sounds_73 : decode cX3_sounds 73 = .ok (.invokestatic 217, 3) := by decide +kernel
theorem dX3_sounds_76 : decode cX3_sounds 76 = .ok (.iload_n 3, 1) := by decide +kernel
theorem dX3_sounds_77 : decode cX3_sounds 77 = .ok (.invokestatic 217, 3) := by decide +kernel
theorem dX3_sounds_80 : decode cX3_sounds 80 = .ok (.if_icmp .ge 6, 3) := by decide +kernel
theorem dX3_sounds_83 : decode cX3_sounds 83 = .ok (.iload 4, 2) := by decide +kernel
theorem dX3_sounds_85 : decode cX3_sounds 85 = .ok (.istore_n 3, 1) := by decide +kernel
theorem dX3_sounds_86 : decode cX3_sounds 86 = .ok (.iinc 4 1, 3) := by decide +kernel
theorem dX3_sounds_89 : decode cX3_sounds 89 = .ok (.goto (-65), 3) := by decide +kernel
theorem dX3_sounds_92 : decode cX3_sounds 92 = .ok (.iload_n 3, 1) := by decide +kernel
theorem dX3_sounds_93 : decode cX3_sounds 93 = .ok (.ireturn, 1) := by decide +kernel
theorem dX3_began_0 : decode cX3_began 0 = .ok (.aload_n 0, 1) := by decide +kernel
theorem dX3_began_1 : decode cX3_began 1 = .ok (.getfield 19, 3) := by decide +kernel
theorem dX3_began_4 : decode cX3_began 4 = .ok (.iload_n 1, 1) := by decide +kernel
theorem dX3_began_5 : decode cX3_began 5 = .ok (.invokevirtual 204, 3) := by decide +kernel
theorem dX3_began_8 : decode cX3_began 8 = .ok (.ifCond .eq 11, 3) := by decide +kernel
theorem dX3_began_11 : decode cX3_began 11 = .ok (.aload_n 0, 1) := by decide +kernel
theorem dX3_began_12 : decode cX3_began 12 = .ok (.iload_n 1, 1) := by decide +kernel
theorem dX3_began_13 : decode cX3_began 13 = .ok (.invokevirtual 222, 3) := by decide +kernel
theorem dX3_began_16 : decode cX3_began 16 = .ok (.goto 4, 3) := by decide +kernel
theorem dX3_began_19 : decode cX3_began 19 = .ok (.iconst (-1), 1) := by decide +kernel
theorem dX3_began_20 : decode cX3_began 20 = .ok (.ireturn, 1) := by decide +kernel
theorem dX3_beginnings_0 : decode cX3_beginnings 0 = .ok (.iconst 0, 1) := by decide +kernel
theorem dX3_beginnings_1 : decode cX3_beginnings 1 = .ok (.istore_n 2, 1) := by decide +kernel
theorem dX3_beginnings_2 : decode cX3_beginnings 2 = .ok (.iconst 0, 1) := by decide +kernel
theorem dX3_beginnings_3 : decode cX3_beginnings 3 = .ok (.istore_n 3, 1) := by decide +kernel
theorem dX3_beginnings_4 : decode cX3_beginnings 4 = .ok (.iload_n 3, 1) := by decide +kernel
theorem dX3_beginnings_5 : decode cX3_beginnings 5 = .ok (.aload_n 0, 1) := by decide +kernel
theorem dX3_beginnings_6 : decode cX3_beginnings 6 = .ok (.getfield 19, 3) := by decide +kernel
theorem dX3_beginnings_9 : decode cX3_beginnings 9 = .ok (.getfield 207, 3) := by decide +kernel
theorem dX3_beginnings_12 : decode cX3_beginnings 12 = .ok (.if_icmp .ge 37, 3) := by decide +kernel
theorem dX3_beginnings_15 : decode cX3_beginnings 15 = .ok (.aload_n 0, 1) := by decide +kernel
theorem dX3_beginnings_16 : decode cX3_beginnings 16 = .ok (.getfield 19, 3) := by decide +kernel
theorem dX3_beginnings_19 : decode cX3_beginnings 19 = .ok (.iload_n 3, 1) := by decide +kernel
theorem dX3_beginnings_20 : decode cX3_beginnings 20 = .ok (.invokevirtual 81, 3) := by decide +kernel
theorem dX3_beginnings_23 : decode cX3_beginnings 23 = .ok (.ifCond .eq 20, 3) := by decide +kernel
theorem dX3_beginnings_26 : decode cX3_beginnings 26 = .ok (.aload_n 0, 1) := by decide +kernel
theorem dX3_beginnings_27 : decode cX3_beginnings 27 = .ok (.iconst 1, 1) := by decide +kernel
theorem dX3_beginnings_28 : decode cX3_beginnings 28 = .ok (.iload_n 3, 1) := by decide +kernel
theorem dX3_beginnings_29 : decode cX3_beginnings 29 = .ok (.ishl, 1) := by decide +kernel
theorem dX3_beginnings_30 : decode cX3_beginnings 30 = .ok (.iload_n 1, 1) := by decide +kernel
theorem dX3_beginnings_31 : decode cX3_beginnings 31 = .ok (.invokevirtual 213, 3) := by decide +kernel
theorem dX3_beginnings_34 : decode cX3_beginnings 34 = .ok (.ifCond .eq 9, 3) := by decide +kernel
theorem dX3_beginnings_37 : decode cX3_beginnings 37 = .ok (.iload_n 2, 1) := by decide +kernel
theorem dX3_beginnings_38 : decode cX3_beginnings 38 = .ok (.iconst 1, 1) := by decide +kernel
theorem dX3_beginnings_39 : decode cX3_beginnings 39 = .ok (.iload_n 3, 1) := by decide +kernel
theorem dX3_beginnings_40 : decode cX3_beginnings 40 = .ok (.ishl, 1) := by decide +kernel
theorem dX3_beginnings_41 : decode cX3_beginnings 41 = .ok (.ior, 1) := by decide +kernel
