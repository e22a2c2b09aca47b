theorem dX4_manyOf_21 : decode cX4_manyOf 21 = .ok (.goto (-17), 3) := by decide +kernel
theorem dX4_manyOf_24 : decode cX4_manyOf 24 = .ok (.iload_n 1, 1) := by decide +kernel
theorem dX4_manyOf_25 : decode cX4_manyOf 25 = .ok (.ireturn, 1) := by decide +kernel
theorem dX4_isThere_0 : decode cX4_isThere 0 = .ok (.iload_n 2, 1) := by decide +kernel
theorem dX4_isThere_1 : decode cX4_isThere 1 = .ok (.aload_n 0, 1) := by decide +kernel
theorem dX4_isThere_2 : decode cX4_isThere 2 = .ok (.getfield 35, 3) := by decide +kernel
theorem dX4_isThere_5 : decode cX4_isThere 5 = .ok (.bipush 30, 2) := by decide +kernel
theorem dX4_isThere_7 : decode cX4_isThere 7 = .ok (.iload_n 1, 1) := by decide +kernel
theorem dX4_isThere_8 : decode cX4_isThere 8 = .ok (.iadd, 1) := by decide +kernel
theorem dX4_isThere_9 : decode cX4_isThere 9 = .ok (.iaload, 1) := by decide +kernel
theorem dX4_isThere_10 : decode cX4_isThere 10 = .ok (.isub, 1) := by decide +kernel
theorem dX4_isThere_11 : decode cX4_isThere 11 = .ok (.aload_n 0, 1) := by decide +kernel
theorem dX4_isThere_12 : decode cX4_isThere 12 = .ok (.getfield 32, 3) := by decide +kernel
theorem dX4_isThere_15 : decode cX4_isThere 15 = .ok (.iconst 0, 1) := by decide +kernel
theorem dX4_isThere_16 : decode cX4_isThere 16 = .ok (.iaload, 1) := by decide +kernel
theorem dX4_isThere_17 : decode cX4_isThere 17 = .ok (.if_icmp .gt 7, 3) := by decide +kernel
theorem dX4_isThere_20 : decode cX4_isThere 20 = .ok (.iconst 1, 1) := by decide +kernel
theorem dX4_isThere_21 : decode cX4_isThere 21 = .ok (.goto 4, 3) := by decide +kernel
theorem dX4_isThere_24 : decode cX4_isThere 24 = .ok (.iconst 0, 1) := by decide +kernel
theorem dX4_isThere_25 : decode cX4_isThere 25 = .ok (.ireturn, 1) := by decide +kernel
theorem dX4_there_0 : decode cX4_there 0 = .ok (.iconst 0, 1) := by decide +kernel
theorem dX4_there_1 : decode cX4_there 1 = .ok (.istore_n 2, 1) := by decide +kernel
theorem dX4_there_2 : decode cX4_there 2 = .ok (.iconst 0, 1) := by decide +kernel
theorem dX4_there_3 : decode cX4_there 3 = .ok (.istore_n 3, 1) := by decide +kernel
theorem dX4_there_4 : decode cX4_there 4 = .ok (.iload_n 3, 1) := by decide +kernel
theorem dX4_there_5 : decode cX4_there 5 = .ok (.aload_n 0, 1) := by decide +kernel
theorem dX4_there_6 : decode cX4_there 6 = .ok (.getfield 35, 3) := by decide +kernel
theorem dX4_there_9 : decode cX4_there 9 = .ok (.bipush 120, 2) := by decide +kernel
theorem dX4_there_11 : decode cX4_there 11 = .ok (.iaload, 1) := by decide +kernel
theorem dX4_there_12 : decode cX4_there 12 = .ok (.if_icmp .ge 35, 3) := by decide +kernel
theorem dX4_there_15 : decode cX4_there 15 = .ok (.iload_n 2, 1) := by decide +kernel
theorem dX4_there_16 : decode cX4_there 16 = .ok (.aload_n 0, 1) := by decide +kernel
theorem dX4_there_17 : decode cX4_there 17 = .ok (.iload_n 3, 1) := by decide +kernel
theorem dX4_there_18 : decode cX4_there 18 = .ok (.iload_n 1, 1) := by decide +kernel
theorem dX4_there_19 : decode cX4_there 19 = .ok (.invokevirtual 113, 3) := by decide +kernel
theorem dX4_there_22 : decode cX4_there 22 = .ok (.ifCond .eq 16, 3) := by decide +kernel
theorem dX4_there_25 : decode cX4_there 25 = .ok (.iconst 1, 1) := by decide +kernel
theorem dX4_there_26 : decode cX4_there 26 = .ok (.aload_n 0, 1) := by decide +kernel
theorem dX4_there_27 : decode cX4_there 27 = .ok (.getfield 35, 3) := by decide +kernel
theorem dX4_there_30 : decode cX4_there 30 = .ok (.iconst 0, 1) := by decide +kernel
theorem dX4_there_31 : decode cX4_there 31 = .ok (.iload_n 3, 1) := by decide +kernel
theorem dX4_there_32 : decode cX4_there 32 = .ok (.iadd, 1) := by decide +kernel
theorem dX4_there_33 : decode cX4_there 33 = .ok (.iaload, 1) := by decide +kernel
theorem dX4_there_34 : decode cX4_there 34 = .ok (.ishl, 1) := by decide +kernel
theorem dX4_there_35 : decode cX4_there 35 = .ok (.goto 4, 3) := by decide +kernel
theorem dX4_there_38 : decode cX4_there 38 = .ok (.iconst 0, 1) := by decide +kernel
theorem dX4_there_39 : decode cX4_there 39 = .ok (.ior, 1) := by decide +kernel
theorem dX4_there_40 : decode cX4_there 40 = .ok (.istore_n 2, 1) := by decide +kernel
theorem dX4_there_41 : decode cX4_there 41 = .ok (.iinc 3 1, 3) := by decide +kernel
theorem dX4_there_44 : decode cX4_there 44 = .ok (.goto (-40), 3) := by decide +kernel
theorem dX4_there_47 : decode cX4_there 47 = .ok (.iload_n 2, 1) := by decide +kernel
theorem dX4_there_48 : decode cX4_there 48 = .ok (.ireturn, 1) := by decide +kernel
theorem dX4_knownBy_0 : decode cX4_knownBy 0 = .ok (.iconst 0, 1) := by decide +kernel
theorem dX4_knownBy_1 : decode cX4_knownBy 1 = .ok (.istore_n 2, 1) := by decide +kernel
theorem dX4_knownBy_2 : decode cX4_knownBy 2 = .ok (.iconst 0, 1) := by decide +kernel
theorem dX4_knownBy_3 : decode cX4_knownBy 3 = .ok (.istore_n 3, 1) := by decide +kernel
theorem dX4_knownBy_4 : decode cX4_knownBy 4 = .ok (.iload_n 3, 1) := by decide +kernel
theorem dX4_knownBy_5 : decode cX4_knownBy 5 = .ok (.aload_n 0, 1) := by decide +kernel
theorem dX4_knownBy_6 : decode cX4_knownBy 6 = .ok (.getfield 26, 3) := by decide +kernel
theorem dX4_knownBy_9 : decode cX4_knownBy 9 = .ok (.iconst 0, 1) := by decide +kernel
theorem dX4_knownBy_10 : decode cX4_knownBy 10 = .ok (.iaload, 1) := by decide +kernel
theorem dX4_knownBy_11 : decode cX4_knownBy 11 = .ok (.if_icmp .ge 24, 3) := by decide +kernel
theorem dX4_knownBy_14 : decode cX4_knownBy 14 = .ok (.iload_n 2, 1) := by decide +kernel
theorem dX4_knownBy_15 : decode cX4_knownBy 15 = .ok (.aload_n 0, 1) := by decide +kernel
theorem dX4_knownBy_16 : decode cX4_knownBy 16 = .ok (.getfield 29, 3) := by decide +kernel
theorem dX4_knownBy_19 : decode cX4_knownBy 19 = .ok (.iload_n 3, 1) := by decide +kernel
theorem dX4_knownBy_20 : decode cX4_knownBy 20 = .ok (.iaload, 1) := by decide +kernel
theorem dX4_knownBy_21 : decode cX4_knownBy 21 = .ok (.iload_n 1, 1) := by decide +kernel
theorem dX4_knownBy_22 : decode cX4_knownBy 22 = .ok (.ishr, 1) := by decide +kernel
theorem dX4_knownBy_23 : decode cX4_knownBy 23 = .ok (.iconst 1, 1) := by decide +kernel
theorem dX4_knownBy_24 : decode cX4_knownBy 24 = .ok (.iand, 1) := by decide +kernel
theorem dX4_knownBy_25 : decode cX4_knownBy 25 = .ok (.iload_n 3, 1) := by decide +kernel
theorem dX4_knownBy_26 : decode cX4_knownBy 26 = .ok (.ishl, 1) := by decide +kernel
theorem dX4_knownBy_27 : decode cX4_knownBy 27 = .ok (.ior, 1) := by decide +kernel
theorem dX4_knownBy_28 : decode cX4_knownBy 28 = .ok (.istore_n 2, 1) := by decide +kernel
theorem dX4_knownBy_29 : decode cX4_knownBy 29 = .ok (.iinc 3 1, 3) := by decide +kernel
theorem dX4_knownBy_32 : decode cX4_knownBy 32 = .ok (.goto (-28), 3) := by decide +kernel
theorem dX4_knownBy_35 : decode cX4_knownBy 35 = .ok (.iload_n 2, 1) := by decide +kernel
theorem dX4_knownBy_36 : decode cX4_knownBy 36 = .ok (.ireturn, 1) := by decide +kernel
theorem dX4_oftenOf_0 : decode cX4_oftenOf 0 = .ok (.iconst 0, 1) := by decide +kernel
theorem dX4_oftenOf_1 : decode cX4_oftenOf 1 = .ok (.istore_n 2, 1) := by decide +kernel
theorem dX4_oftenOf_2 : decode cX4_oftenOf 2 = .ok (.iconst 0, 1) := by decide +kernel
theorem dX4_oftenOf_3 : decode cX4_oftenOf 3 = .ok (.istore_n 3, 1) := by decide +kernel
theorem dX4_oftenOf_4 : decode cX4_oftenOf 4 = .ok (.iload_n 3, 1) := by decide +kernel
theorem dX4_oftenOf_5 : decode cX4_oftenOf 5 = .ok (.aload_n 0, 1) := by decide +kernel
theorem dX4_oftenOf_6 : decode cX4_oftenOf 6 = .ok (.getfield 35, 3) := by decide +kernel
theorem dX4_oftenOf_9 : decode cX4_oftenOf 9 = .ok (.bipush 120, 2) := by decide +kernel
theorem dX4_oftenOf_11 : decode cX4_oftenOf 11 = .ok (.iaload, 1) := by decide +kernel
theorem dX4_oftenOf_12 : decode cX4_oftenOf 12 = .ok (.if_icmp .ge 29, 3) := by decide +kernel
theorem dX4_oftenOf_15 : decode cX4_oftenOf 15 = .ok (.iload_n 2, 1) := by decide +kernel
theorem dX4_oftenOf_16 : decode cX4_oftenOf 16 = .ok (.aload_n 0, 1) := by decide +kernel
theorem dX4_oftenOf_17 : decode cX4_oftenOf 17 = .ok (.getfield 35, 3) := by decide +kernel
theorem dX4_oftenOf_20 : decode cX4_oftenOf 20 = .ok (.iconst 0, 1) := by decide +kernel
theorem dX4_oftenOf_21 : decode cX4_oftenOf 21 = .ok (.iload_n 3, 1) := by decide +kernel
theorem dX4_oftenOf_22 : decode cX4_oftenOf 22 = .ok (.iadd, 1) := by decide +kernel
theorem dX4_oftenOf_23 : decode cX4_oftenOf 23 = .ok (.iaload, 1) := by decide +kernel
theorem dX4_oftenOf_24 : decode cX4_oftenOf 24 = .ok (.iload_n 1, 1) := by decide +kernel
theorem dX4_oftenOf_25 : decode cX4_oftenOf 25 = .ok (.if_icmp .ne 7, 3) := by decide +kernel
theorem dX4_oftenOf_28 : decode cX4_oftenOf 28 = .ok (.iconst 1, 1) := by decide +kernel
theorem dX4_oftenOf_29 : decode cX4_oftenOf 29 = .ok (.goto 4, 3) := by decide +kernel
theorem dX4_oftenOf_32 : decode cX4_oftenOf 32 = .ok (.iconst 0, 1) := by decide +kernel
theorem dX4_oftenOf_33 : decode cX4_oftenOf 33 = .ok (.iadd, 1) := by decide +kernel
theorem dX4_oftenOf_34 : decode cX4_oftenOf 34 = .ok (.istore_n 2, 1) := by decide +kernel
theorem dX4_oftenOf_35 : decode cX4_oftenOf 35 = .ok (.iinc 3 1, 3) := by decide +kernel
theorem dX4_oftenOf_38 : decode cX4_oftenOf 38 = .ok (.goto (-34), 3) := by decide +kernel
theorem dX4_oftenOf_41 : decode cX4_oftenOf 41 = .ok (.iload_n 2, 1) := by decide +kernel
theorem dX4_oftenOf_42 : decode cX4_oftenOf 42 = .ok (.ireturn, 1) := by decide +kernel
theorem dX4_saying_0 : decode cX4_saying 0 = .ok (.aload_n 0, 1) := by decide +kernel
theorem dX4_saying_1 : decode cX4_saying 1 = .ok (.iload_n 1, 1) := by decide +kernel
theorem dX4_saying_2 : decode cX4_saying 2 = .ok (.invokevirtual 117, 3) := by decide +kernel
theorem dX4_saying_5 : decode cX4_saying 5 = .ok (.ifCond .ne 5, 3) := by decide +kernel
theorem dX4_saying_8 : decode cX4_saying 8 = .ok (.iconst (-1), 1) := by decide +kernel
theorem dX4_saying_9 : decode cX4_saying 9 = .ok (.ireturn, 1) := by decide +kernel
theorem dX4_saying_10 : decode cX4_saying 10 = .ok (.iload_n 2, 1) := by decide +kernel
theorem dX4_saying_11 : decode cX4_saying 11 = .ok (.tableswitch 73 0 4 #[33, 47, 54, 61, 67], 33) := by decide +kernel
theorem dX4_saying_44 : decode cX4_saying 44 = .ok (.aload_n 0, 1) := by decide +kernel
theorem dX4_saying_45 : decode cX4_saying 45 = .ok (.iload_n 1, 1) := by decide +kernel
theorem dX4_saying_46 : decode cX4_saying 46 = .ok (.invokevirtual 120, 3) := by decide +kernel
theorem dX4_saying_49 : decode cX4_saying 49 = .ok (.ifCond .eq 7, 3) := by decide +kernel
theorem dX4_saying_52 : decode cX4_saying 52 = .ok (.iconst 1, 1) := by decide +kernel
theorem dX4_saying_53 : decode cX4_saying 53 = .ok (.goto 4, 3) := by decide +kernel
theorem dX4_saying_56 : decode cX4_saying 56 = .ok (.iconst 0, 1) := by decide +kernel
theorem dX4_saying_57 : decode cX4_saying 57 = .ok (.ireturn, 1) := by decide +kernel
theorem dX4_saying_58 : decode cX4_saying 58 = .ok (.aload_n 0, 1) := by decide +kernel
theorem dX4_saying_59 : decode cX4_saying 59 = .ok (.getfield 17, 3) := by decide +kernel
theorem dX4_saying_62 : decode cX4_saying 62 = .ok (.iload_n 1, 1) := by decide +kernel
theorem dX4_saying_63 : decode cX4_saying 63 = .ok (.iaload, 1) := by decide +kernel
theorem dX4_saying_64 : decode cX4_saying 64 = .ok (.ireturn, 1) := by decide +kernel
theorem dX4_saying_65 : decode cX4_saying 65 = .ok (.aload_n 0, 1) := by decide +kernel
theorem dX4_saying_66 : decode cX4_saying 66 = .ok (.getfield 20, 3) := by decide +kernel
theorem dX4_saying_69 : decode cX4_saying 69 = .ok (.iload_n 1, 1) := by decide +kernel
theorem dX4_saying_70 : decode cX4_saying 70 = .ok (.iaload, 1) := by decide +kernel
theorem dX4_saying_71 : decode cX4_saying 71 = .ok (.ireturn, 1) := by decide +kernel
theorem dX4_saying_72 : decode cX4_saying 72 = .ok (.aload_n 0, 1) := by decide +kernel
theorem dX4_saying_73 : decode cX4_saying 73 = .ok (.iload_n 1, 1) := by decide +kernel
theorem dX4_saying_74 : decode cX4_saying 74 = .ok (.invokevirtual 123, 3) := by decide +kernel
theorem dX4_saying_77 : decode cX4_saying 77 = .ok (.ireturn, 1) := by decide +kernel
theorem dX4_saying_78 : decode cX4_saying 78 = .ok (.aload_n 0, 1) := by decide +kernel
theorem dX4_saying_79 : decode cX4_saying 79 = .ok (.iload_n 1, 1) := by decide +kernel
theorem dX4_saying_80 : decode cX4_saying 80 = .ok (.invokevirtual 127, 3) := by decide +kernel
theorem dX4_saying_83 : decode cX4_saying 83 = .ok (.ireturn, 1) := by decide +kernel
theorem dX4_saying_84 : decode cX4_saying 84 = .ok (.iconst (-1), 1) := by decide +kernel
theorem dX4_saying_85 : decode cX4_saying 85 = .ok (.ireturn, 1) := by decide +kernel
theorem dX4_mayOf_0 : decode cX4_mayOf 0 = .ok (.iconst 0, 1) := by decide +kernel
theorem dX4_mayOf_1 : decode cX4_mayOf 1 = .ok (.istore_n 3, 1) := by decide +kernel
theorem dX4_mayOf_2 : decode cX4_mayOf 2 = .ok (.iconst 0, 1) := by decide +kernel
theorem dX4_mayOf_3 : decode cX4_mayOf 3 = .ok (.istore 4, 2) := by decide +kernel
theorem dX4_mayOf_5 : decode cX4_mayOf 5 = .ok (.iload 4, 2) := by decide +kernel
theorem dX4_mayOf_7 : decode cX4_mayOf 7 = .ok (.aload_n 0, 1) := by decide +kernel
theorem dX4_mayOf_8 : decode cX4_mayOf 8 = .ok (.getfield 13, 3) := by decide +kernel
theorem dX4_mayOf_11 : decode cX4_mayOf 11 = .ok (.iconst 0, 1) := by decide +kernel
theorem dX4_mayOf_12 : decode cX4_mayOf 12 = .ok (.iaload, 1) := by decide +kernel
theorem dX4_mayOf_13 : decode cX4_mayOf 13 = .ok (.if_icmp .ge 56, 3) := by decide +kernel
theorem dX4_mayOf_16 : decode cX4_mayOf 16 = .ok (.iload_n 3, 1) := by decide +kernel
theorem dX4_mayOf_17 : decode cX4_mayOf 17 = .ok (.aload_n 0, 1) := by decide +kernel
theorem dX4_mayOf_18 : decode cX4_mayOf 18 = .ok (.getfield 29, 3) := by decide +kernel
theorem dX4_mayOf_21 : decode cX4_mayOf 21 = .ok (.iload_n 1, 1) := by decide +kernel
theorem dX4_mayOf_22 : decode cX4_mayOf 22 = .ok (.iaload, 1) := by decide +kernel
theorem dX4_mayOf_23 : decode cX4_mayOf 23 = .ok (.iload 4, 2) := by decide +kernel
theorem dX4_mayOf_25 : decode cX4_mayOf 25 = .ok (.ishr, 1) := by decide +kernel
theorem dX4_mayOf_26 : decode cX4_mayOf 26 = .ok (.iconst 1, 1) := by decide +kernel
theorem dX4_mayOf_27 : decode cX4_mayOf 27 = .ok (.iand, 1) := by decide +kernel
theorem dX4_mayOf_28 : decode cX4_mayOf 28 = .ok (.iconst 1, 1) := by decide +kernel
theorem dX4_mayOf_29 : decode cX4_mayOf 29 = .ok (.if_icmp .ne 31, 3) := by decide +kernel
theorem dX4_mayOf_32 : decode cX4_mayOf 32 = .ok (.aload_n 0, 1) := by decide +kernel
theorem dX4_mayOf_33 : decode cX4_mayOf 33 = .ok (.iload 4, 2) := by decide +kernel
theorem dX4_mayOf_35 : decode cX4_mayOf 35 = .ok (.invokevirtual 120, 3) := by decide +kernel
theorem dX4_mayOf_38 : decode cX4_mayOf 38 = .ok (.ifCond .ne 22, 3) := by decide +kernel
theorem dX4_mayOf_41 : decode cX4_mayOf 41 = .ok (.aload_n 0, 1) := by decide +kernel
theorem dX4_mayOf_42 : decode cX4_mayOf 42 = .ok (.getfield 20, 3) := by decide +kernel
theorem dX4_mayOf_45 : decode cX4_mayOf 45 = .ok (.iload 4, 2) := by decide +kernel
theorem dX4_mayOf_47 : decode cX4_mayOf 47 = .ok (.iaload, 1) := by decide +kernel
theorem dX4_mayOf_48 : decode cX4_mayOf 48 = .ok (.iload_n 2, 1) := by decide +kernel
theorem dX4_mayOf_49 : decode cX4_mayOf 49 = .ok (.iand, 1) := by decide +kernel
theorem dX4_mayOf_50 : decode cX4_mayOf 50 = .ok (.ifCond .eq 10, 3) := by decide +kernel
theorem dX4_mayOf_53 : decode cX4_mayOf 53 = .ok (.iconst 1, 1) := by decide +kernel
theorem dX4_mayOf_54 : decode cX4_mayOf 54 = .ok (.iload 4, 2) := by decide +kernel
theorem dX4_mayOf_56 : decode cX4_mayOf 56 = .ok (.ishl, 1) := by decide +kernel
theorem dX4_mayOf_57 : decode cX4_mayOf 57 = .ok (.goto 4, 3) := by decide +kernel
theorem dX4_mayOf_60 : decode cX4_mayOf 60 = .ok (.iconst 0, 1) := by decide +kernel
theorem dX4_mayOf_61 : decode cX4_mayOf 61 = .ok (.ior, 1) := by decide +kernel
theorem dX4_mayOf_62 : decode cX4_mayOf 62 = .ok (.istore_n 3, 1) := by decide +kernel
theorem dX4_mayOf_63 : decode cX4_mayOf 63 = .ok (.iinc 4 1, 3) := by decide +kernel
theorem dX4_mayOf_66 : decode cX4_mayOf 66 = .ok (.goto (-61), 3) := by decide +kernel
theorem dX4_mayOf_69 : decode cX4_mayOf 69 = .ok (.iload_n 3, 1) := by decide +kernel
theorem dX4_mayOf_70 : decode cX4_mayOf 70 = .ok (.ireturn, 1) := by decide +kernel
theorem dX4_person_0 : decode cX4_person 0 = .ok (.aload_n 0, 1) := by decide +kernel
theorem dX4_person_1 : decode cX4_person 1 = .ok (.iload_n 1, 1) := by decide +kernel
theorem dX4_person_2 : decode cX4_person 2 = .ok (.invokevirtual 130, 3) := by decide +kernel
theorem dX4_person_5 : decode cX4_person 5 = .ok (.ifCond .eq 12, 3) := by decide +kernel
theorem dX4_person_8 : decode cX4_person 8 = .ok (.iload_n 2, 1) := by decide +kernel
theorem dX4_person_9 : decode cX4_person 9 = .ok (.iconst 0, 1) := by decide +kernel
theorem dX4_person_10 : decode cX4_person 10 = .ok (.iconst 2, 1) := by decide +kernel
theorem dX4_person_11 : decode cX4_person 11 = .ok (.invokestatic 57, 3) := by decide +kernel
theorem dX4_person_14 : decode cX4_person 14 = .ok (.ifCond .ne 5, 3) := by decide +kernel
theorem dX4_person_17 : decode cX4_person 17 = .ok (.iconst (-1), 1) := by decide +kernel
theorem dX4_person_18 : decode cX4_person 18 = .ok (.ireturn, 1) := by decide +kernel
theorem dX4_person_19 : decode cX4_person 19 = .ok (.iconst 0, 1) := by decide +kernel
theorem dX4_person_20 : decode cX4_person 20 = .ok (.istore_n 3, 1) := by decide +kernel
theorem dX4_person_21 : decode cX4_person 21 = .ok (.iconst 0, 1) := by decide +kernel
theorem dX4_person_22 : decode cX4_person 22 = .ok (.istore 4, 2) := by decide +kernel
theorem dX4_person_24 : decode cX4_person 24 = .ok (.iload 4, 2) := by decide +kernel
theorem dX4_person_26 : decode cX4_person 26 = .ok (.aload_n 0, 1) := by decide +kernel
theorem dX4_person_27 : decode cX4_person 27 = .ok (.getfield 35, 3) := by decide +kernel
theorem dX4_person_30 : decode cX4_person 30 = .ok (.bipush 120, 2) := by decide +kernel
theorem dX4_person_32 : decode cX4_person 32 = .ok (.iaload, 1) := by decide +kernel
theorem dX4_person_33 : decode cX4_person 33 = .ok (.if_icmp .ge 31, 3) := by decide +kernel
theorem dX4_person_36 : decode cX4_person 36 = .ok (.iload_n 3, 1) := by decide +kernel
theorem dX4_person_37 : decode cX4_person 37 = .ok (.aload_n 0, 1) := by decide +kernel
theorem dX4_person_38 : decode cX4_person 38 = .ok (.getfield 35, 3) := by decide +kernel
theorem dX4_person_41 : decode cX4_person 41 = .ok (.bipush 60, 2) := by decide +kernel
theorem dX4_person_43 : decode cX4_person 43 = .ok (.iload 4, 2) := by decide +kernel
theorem dX4_person_45 : decode cX4_person 45 = .ok (.iadd, 1) := by decide +kernel
theorem dX4_person_46 : decode cX4_person 46 = .ok (.iaload, 1) := by decide +kernel
theorem dX4_person_47 : decode cX4_person 47 = .ok (.iload_n 1, 1) := by decide +kernel
theorem dX4_person_48 : decode cX4_person 48 = .ok (.if_icmp .ne 7, 3) := by decide +kernel
theorem dX4_person_51 : decode cX4_person 51 = .ok (.iconst 1, 1) := by decide +kernel
theorem dX4_person_52 : decode cX4_person 52 = .ok (.goto 4, 3) := by decide +kernel
theorem dX4_person_55 : decode cX4_person 55 = .ok (.iconst 0, 1) := by decide +kernel
theorem dX4_person_56 : decode cX4_person 56 = .ok (.iadd, 1) := by decide +kernel
theorem dX4_person_57 : decode cX4_person 57 = .ok (.istore_n 3, 1) := by decide +kernel
theorem dX4_person_58 : decode cX4_person 58 = .ok (.iinc 4 1, 3) := by decide +kernel
theorem dX4_person_61 : decode cX4_person 61 = .ok (.goto (-37), 3) := by decide +kernel
theorem dX4_person_64 : decode cX4_person 64 = .ok (.iload_n 2, 1) := by decide +kernel
theorem dX4_person_65 : decode cX4_person 65 = .ok (.ifCond .ne 12, 3) := by decide +kernel
theorem dX4_person_68 : decode cX4_person 68 = .ok (.aload_n 0, 1) := by decide +kernel
theorem dX4_person_69 : decode cX4_person 69 = .ok (.getfield 29, 3) := by decide +kernel
theorem dX4_person_72 : decode cX4_person 72 = .ok (.iload_n 1, 1) := by decide +kernel
theorem dX4_person_73 : decode cX4_person 73 = .ok (.iaload, 1) := by decide +kernel
theorem dX4_person_74 : decode cX4_person 74 = .ok (.goto 28, 3) := by decide +kernel
theorem dX4_person_77 : decode cX4_person 77 = .ok (.iload_n 2, 1) := by decide +kernel
theorem dX4_person_78 : decode cX4_person 78 = .ok (.iconst 1, 1) := by decide +kernel
theorem dX4_person_79 : decode cX4_person 79 = .ok (.if_icmp .ne 22, 3) := by decide +kernel
theorem dX4_person_82 : decode cX4_person 82 = .ok (.aload_n 0, 1) := by decide +kernel
theorem dX4_person_83 : decode cX4_person 83 = .ok (.iload_n 1, 1) := by decide +kernel
theorem dX4_person_84 : decode cX4_person 84 = .ok (.aload_n 0, 1) := by decide +kernel
theorem dX4_person_85 : decode cX4_person 85 = .ok (.aload_n 0, 1) := by decide +kernel
theorem dX4_person_86 : decode cX4_person 86 = .ok (.getfield 35, 3) := by decide +kernel
theorem dX4_person_89 : decode cX4_person 89 = .ok (.bipush 121, 2) := by decide +kernel
theorem dX4_person_91 : decode cX4_person 91 = .ok (.iaload, 1) := by decide +kernel
theorem dX4_person_92 : decode cX4_person 92 = .ok (.invokevirtual 133, 3) := by decide +kernel
theorem dX4_person_95 : decode cX4_person 95 = .ok (.invokevirtual 136, 3) := by decide +kernel
theorem dX4_person_98 : decode cX4_person 98 = .ok (.goto 4, 3) := by decide +kernel
theorem dX4_person_101 : decode cX4_person 101 = .ok (.iload_n 3, 1) := by decide +kernel
theorem dX4_person_102 : decode cX4_person 102 = .ok (.ireturn, 1) := by decide +kernel
theorem dX4_rootOf_0 : decode cX4_rootOf 0 = .ok (.iload_n 1, 1) := by decide +kernel
theorem dX4_rootOf_1 : decode cX4_rootOf 1 = .ok (.istore_n 2, 1) := by decide +kernel
theorem dX4_rootOf_2 : decode cX4_rootOf 2 = .ok (.aload_n 0, 1) := by decide +kernel
theorem dX4_rootOf_3 : decode cX4_rootOf 3 = .ok (.getfield 35, 3) := by decide +kernel
theorem dX4_rootOf_6 : decode cX4_rootOf 6 = .ok (.bipush 90, 2) := by decide +kernel
theorem dX4_rootOf_8 : decode cX4_rootOf 8 = .ok (.iload_n 2, 1) := by decide +kernel
theorem dX4_rootOf_9 : decode cX4_rootOf 9 = .ok (.iadd, 1) := by decide +kernel
theorem dX4_rootOf_10 : decode cX4_rootOf 10 = .ok (.iaload, 1) := by decide +kernel
theorem dX4_rootOf_11 : decode cX4_rootOf 11 = .ok (.bipush (-9), 2) := by decide +kernel
theorem dX4_rootOf_13 : decode cX4_rootOf 13 = .ok (.if_icmp .eq 16, 3) := by decide +kernel
theorem dX4_rootOf_16 : decode cX4_rootOf 16 = .ok (.aload_n 0, 1) := by decide +kernel
theorem dX4_rootOf_17 : decode cX4_rootOf 17 = .ok (.getfield 35, 3) := by decide +kernel
theorem dX4_rootOf_20 : decode cX4_rootOf 20 = .ok (.bipush 90, 2) := by decide +kernel
theorem dX4_rootOf_22 : decode cX4_rootOf 22 = .ok (.iload_n 2, 1) := by decide +kernel
theorem dX4_rootOf_23 : decode cX4_rootOf 23 = .ok (.iadd, 1) := by decide +kernel
theorem dX4_rootOf_24 : decode cX4_rootOf 24 = .ok (.iaload, 1) := by decide +kernel
theorem dX4_rootOf_25 : decode cX4_rootOf 25 = .ok (.istore_n 2, 1) := by decide +kernel
theorem dX4_rootOf_26 : decode cX4_rootOf 26 = .ok (.goto (-24), 3) := by decide +kernel
theorem dX4_rootOf_29 : decode cX4_rootOf 29 = .ok (.iload_n 2, 1) := by decide +kernel
theorem dX4_rootOf_30 : decode cX4_rootOf 30 = .ok (.ireturn, 1) := by decide +kernel
theorem dX4_farOf_0 : decode cX4_farOf 0 = .ok (.iconst 0, 1) := by decide +kernel
theorem dX4_farOf_1 : decode cX4_farOf 1 = .ok (.istore_n 2, 1) := by decide +kernel
theorem dX4_farOf_2 : decode cX4_farOf 2 = .ok (.iload_n 1, 1) := by decide +kernel
theorem dX4_farOf_3 : decode cX4_farOf 3 = .ok (.istore_n 3, 1) := by decide +kernel
theorem dX4_farOf_4 : decode cX4_farOf 4 = .ok (.aload_n 0, 1) := by decide +kernel
theorem dX4_farOf_5 : decode cX4_farOf 5 = .ok (.getfield 35, 3) := by decide +kernel
theorem dX4_farOf_8 : decode cX4_farOf 8 = .ok (.bipush 90, 2) := by decide +kernel
theorem dX4_farOf_10 : decode cX4_farOf 10 = .ok (.iload_n 3, 1) := by decide +kernel
theorem dX4_farOf_11 : decode cX4_farOf 11 = .ok (.iadd, 1) := by decide +kernel
theorem dX4_farOf_12 : decode cX4_farOf 12 = .ok (.iaload, 1) := by decide +kernel
theorem dX4_farOf_13 : decode cX4_farOf 13 = .ok (.bipush (-9), 2) := by decide +kernel
theorem dX4_farOf_15 : decode cX4_farOf 15 = .ok (.if_icmp .eq 19, 3) := by decide +kernel
theorem dX4_farOf_18 : decode cX4_farOf 18 = .ok (.aload_n 0, 1) := by decide +kernel
theorem dX4_farOf_19 : decode cX4_farOf 19 = .ok (.getfield 35, 3) := by decide +kernel
theorem dX4_farOf_22 : decode cX4_farOf 22 = .ok (.bipush 90, 2) := by decide +kernel
theorem dX4_farOf_24 : decode cX4_farOf 24 = .ok (.iload_n 3, 1) := by decide +kernel
theorem dX4_farOf_25 : decode cX4_farOf 25 = .ok (.iadd, 1) := by decide +kernel
theorem dX4_farOf_26 : decode cX4_farOf 26 = .ok (.iaload, 1) := by decide +kernel
theorem dX4_farOf_27 : decode cX4_farOf 27 = .ok (.istore_n 3, 1) := by decide +kernel
theorem dX4_farOf_28 : decode cX4_farOf 28 = .ok (.iinc 2 1, 3) := by decide +kernel
theorem dX4_farOf_31 : decode cX4_farOf 31 = .ok (.goto (-27), 3) := by decide +kernel
theorem dX4_farOf_34 : decode cX4_farOf 34 = .ok (.iload_n 2, 1) := by decide +kernel
theorem dX4_farOf_35 : decode cX4_farOf 35 = .ok (.ireturn, 1) := by decide +kernel
theorem dX4_firstAnswer_0 : decode cX4_firstAnswer 0 = .ok (.iload_n 1, 1) := by decide +kernel
theorem dX4_firstAnswer_1 : decode cX4_firstAnswer 1 = .ok (.iconst 1, 1) := by decide +kernel
theorem dX4_firstAnswer_2 : decode cX4_firstAnswer 2 = .ok (.iadd, 1) := by decide +kernel
theorem dX4_firstAnswer_3 : decode cX4_firstAnswer 3 = .ok (.istore_n 2, 1) := by decide +kernel
theorem dX4_firstAnswer_4 : decode cX4_firstAnswer 4 = .ok (.iload_n 2, 1) := by decide +kernel
theorem dX4_firstAnswer_5 : decode cX4_firstAnswer 5 = .ok (.aload_n 0, 1) := by decide +kernel
theorem dX4_firstAnswer_6 : decode cX4_firstAnswer 6 = .ok (.getfield 35, 3) := by decide +kernel
theorem dX4_firstAnswer_9 : decode cX4_firstAnswer 9 = .ok (.bipush 120, 2) := by decide +kernel
theorem dX4_firstAnswer_11 : decode cX4_firstAnswer 11 = .ok (.iaload, 1) := by decide +kernel
theorem dX4_firstAnswer_12 : decode cX4_firstAnswer 12 = .ok (.if_icmp .ge 24, 3) := by decide +kernel
theorem dX4_firstAnswer_15 : decode cX4_firstAnswer 15 = .ok (.aload_n 0, 1) := by decide +kernel
theorem dX4_firstAnswer_16 : decode cX4_firstAnswer 16 = .ok (.getfield 35, 3) := by decide +kernel
theorem dX4_firstAnswer_19 : decode cX4_firstAnswer 19 = .ok (.bipush 90, 2) := by decide +kernel
theorem dX4_firstAnswer_21 : decode cX4_firstAnswer 21 = .ok (.iload_n 2, 1) := by decide +kernel
theorem dX4_firstAnswer_22 : decode cX4_firstAnswer 22 = .ok (.iadd, 1) := by decide +kernel
theorem dX4_firstAnswer_23 : decode cX4_firstAnswer 23 = .ok (.iaload, 1) := by decide +kernel
theorem dX4_firstAnswer_24 : decode cX4_firstAnswer 24 = .ok (.iload_n 1, 1) := by decide +kernel
theorem dX4_firstAnswer_25 : decode cX4_firstAnswer 25 = .ok (.if_icmp .ne 5, 3) := by decide +kernel
theorem dX4_firstAnswer_28 : decode cX4_firstAnswer 28 = .ok (.iload_n 2, 1) := by decide +kernel
theorem dX4_firstAnswer_29 : decode cX4_firstAnswer 29 = .ok (.ireturn, 1) := by decide +kernel
theorem dX4_firstAnswer_30 : decode cX4_firstAnswer 30 = .ok (.iinc 2 1, 3) := by decide +kernel
theorem dX4_firstAnswer_33 : decode cX4_firstAnswer 33 = .ok (.goto (-29), 3) := by decide +kernel
theorem dX4_firstAnswer_36 : decode cX4_firstAnswer 36 = .ok (.bipush (-9), 2) := by decide +kernel
theorem dX4_firstAnswer_38 : decode cX4_firstAnswer 38 = .ok (.ireturn, 1) := by decide +kernel
theorem dX4_talk_0 : decode cX4_talk 0 = .ok (.iload_n 1, 1) := by decide +kernel
theorem dX4_talk_1 : decode cX4_talk 1 = .ok (.iconst 0, 1) := by decide +kernel
theorem dX4_talk_2 : decode cX4_talk 2 = .ok (.aload_n 0, 1) := by decide +kernel
theorem dX4_talk_3 : decode cX4_talk 3 = .ok (.getfield 35, 3) := by decide +kernel
theorem dX4_talk_6 : decode cX4_talk 6 = .ok (.bipush 120, 2) := by decide +kernel
theorem dX4_talk_8 : decode cX4_talk 8 = .ok (.iaload, 1) := by decide +kernel
theorem dX4_talk_9 : decode cX4_talk 9 = .ok (.iconst 1, 1) := by decide +kernel
theorem dX4_talk_10 : decode cX4_talk 10 = .ok (.isub, 1) := by decide +kernel
theorem dX4_talk_11 : decode cX4_talk 11 = .ok (.invokestatic 57, 3) := by decide +kernel
theorem dX4_talk_14 : decode cX4_talk 14 = .ok (.ifCond .ne 5, 3) := by decide +kernel
theorem dX4_talk_17 : decode cX4_talk 17 = .ok (.iconst (-1), 1) := by decide +kernel
theorem dX4_talk_18 : decode cX4_talk 18 = .ok (.ireturn, 1) := by decide +kernel
theorem dX4_talk_19 : decode cX4_talk 19 = .ok (.iload_n 2, 1) := by decide +kernel
theorem dX4_talk_20 : decode cX4_talk 20 = .ok (.tableswitch 136 0 7 #[48, 57, 67, 77, 87, 93, 99, 115], 48) := by decide +kernel
theorem dX4_talk_68 : decode cX4_talk 68 = .ok (.aload_n 0, 1) := by decide +kernel
theorem dX4_talk_69 : decode cX4_talk 69 = .ok (.getfield 35, 3) := by decide +kernel
theorem dX4_talk_72 : decode cX4_talk 72 = .ok (.iconst 0, 1) := by decide +kernel
theorem dX4_talk_73 : decode cX4_talk 73 = .ok (.iload_n 1, 1) := by decide +kernel
theorem dX4_talk_74 : decode cX4_talk 74 = .ok (.iadd, 1) := by decide +kernel
theorem dX4_talk_75 : decode cX4_talk 75 = .ok (.iaload, 1) := by decide +kernel
theorem dX4_talk_76 : decode cX4_talk 76 = .ok (.ireturn, 1) := by decide +kernel
theorem dX4_talk_77 : decode cX4_talk 77 = .ok (.aload_n 0, 1) := by decide +kernel
theorem dX4_talk_78 : decode cX4_talk 78 = .ok (.getfield 35, 3) := by decide +kernel
theorem dX4_talk_81 : decode cX4_talk 81 = .ok (.bipush 30, 2) := by decide +kernel
theorem dX4_talk_83 : decode cX4_talk 83 = .ok (.iload_n 1, 1) := by decide +kernel
theorem dX4_talk_84 : decode cX4_talk 84 = .ok (.iadd, 1) := by decide +kernel
theorem dX4_talk_85 : decode cX4_talk 85 = .ok (.iaload, 1) := by decide +kernel
theorem dX4_talk_86 : decode cX4_talk 86 = .ok (.ireturn, 1) := by decide +kernel
theorem dX4_talk_87 : decode cX4_talk 87 = .ok (.aload_n 0, 1) := by decide +kernel
theorem dX4_talk_88 : decode cX4_talk 88 = .ok (.getfield 35, 3) := by decide +kernel
theorem dX4_talk_91 : decode cX4_talk 91 = .ok (.bipush 60, 2) := by decide +kernel
theorem dX4_talk_93 : decode cX4_talk 93 = .ok (.iload_n 1, 1) := by decide +kernel
theorem dX4_talk_94 : decode cX4_talk 94 = .ok (.iadd, 1) := by decide +kernel
theorem dX4_talk_95 : decode cX4_talk 95 = .ok (.iaload, 1) := by decide +kernel
theorem dX4_talk_96 : decode cX4_talk 96 = .ok (.ireturn, 1) := by decide +kernel
theorem dX4_talk_97 : decode cX4_talk 97 = .ok (.aload_n 0, 1) := by decide +kernel
theorem dX4_talk_98 : decode cX4_talk 98 = .ok (.getfield 35, 3) := by decide +kernel
theorem dX4_talk_101 : decode cX4_talk 101 = .ok (.bipush 90, 2) := by decide +kernel
theorem dX4_talk_103 : decode cX4_talk 103 = .ok (.iload_n 1, 1) := by decide +kernel
theorem dX4_talk_104 : decode cX4_talk 104 = .ok (.iadd, 1) := by decide +kernel
theorem dX4_talk_105 : decode cX4_talk 105 = .ok (.iaload, 1) := by decide +kernel
theorem dX4_talk_106 : decode cX4_talk 106 = .ok (.ireturn, 1) := by decide +kernel
theorem dX4_talk_107 : decode cX4_talk 107 = .ok (.aload_n 0, 1) := by decide +kernel
theorem dX4_talk_108 : decode cX4_talk 108 = .ok (.iload_n 1, 1) := by decide +kernel
theorem dX4_talk_109 : decode cX4_talk 109 = .ok (.invokevirtual 139, 3) := by decide +kernel
theorem dX4_talk_112 : decode cX4_talk 112 = .ok (.ireturn, 1) := by decide +kernel
theorem dX4_talk_113 : decode cX4_talk 113 = .ok (.aload_n 0, 1) := by decide +kernel
theorem dX4_talk_114 : decode cX4_talk 114 = .ok (.iload_n 1, 1) := by decide +kernel
theorem dX4_talk_115 : decode cX4_talk 115 = .ok (.invokevirtual 142, 3) := by decide +kernel
theorem dX4_talk_118 : decode cX4_talk 118 = .ok (.ireturn, 1) := by decide +kernel
theorem dX4_talk_119 : decode cX4_talk 119 = .ok (.aload_n 0, 1) := by decide +kernel
theorem dX4_talk_120 : decode cX4_talk 120 = .ok (.iload_n 1, 1) := by decide +kernel
theorem dX4_talk_121 : decode cX4_talk 121 = .ok (.invokevirtual 145, 3) := by decide +kernel
theorem dX4_talk_124 : decode cX4_talk 124 = .ok (.bipush (-9), 2) := by decide +kernel
theorem dX4_talk_126 : decode cX4_talk 126 = .ok (.if_icmp .ne 7, 3) := by decide +kernel
theorem dX4_talk_129 : decode cX4_talk 129 = .ok (.iconst 1, 1) := by decide +kernel
theorem dX4_talk_130 : decode cX4_talk 130 = .ok (.goto 4, 3) := by decide +kernel
theorem dX4_talk_133 : decode cX4_talk 133 = .ok (.iconst 0, 1) := by decide +kernel
theorem dX4_talk_134 : decode cX4_talk 134 = .ok (.ireturn, 1) := by decide +kernel
theorem dX4_talk_135 : decode cX4_talk 135 = .ok (.aload_n 0, 1) := by decide +kernel
theorem dX4_talk_136 : decode cX4_talk 136 = .ok (.iload_n 1, 1) := by decide +kernel
theorem dX4_talk_137 : decode cX4_talk 137 = .ok (.aload_n 0, 1) := by decide +kernel
theorem dX4_talk_138 : decode cX4_talk 138 = .ok (.getfield 35, 3) := by decide +kernel
theorem dX4_talk_141 : decode cX4_talk 141 = .ok (.bipush 121, 2) := by decide +kernel
theorem dX4_talk_143 : decode cX4_talk 143 = .ok (.iaload, 1) := by decide +kernel
theorem dX4_talk_144 : decode cX4_talk 144 = .ok (.invokevirtual 113, 3) := by decide +kernel
theorem dX4_talk_147 : decode cX4_talk 147 = .ok (.ifCond .eq 7, 3) := by decide +kernel
theorem dX4_talk_150 : decode cX4_talk 150 = .ok (.iconst 1, 1) := by decide +kernel
theorem dX4_talk_151 : decode cX4_talk 151 = .ok (.goto 4, 3) := by decide +kernel
theorem dX4_talk_154 : decode cX4_talk 154 = .ok (.iconst 0, 1) := by decide +kernel
theorem dX4_talk_155 : decode cX4_talk 155 = .ok (.ireturn, 1) := by decide +kernel
theorem dX4_talk_156 : decode cX4_talk 156 = .ok (.iconst (-1), 1) := by decide +kernel
theorem dX4_talk_157 : decode cX4_talk 157 = .ok (.ireturn, 1) := by decide +kernel
theorem dX4_know_0 : decode cX4_know 0 = .ok (.aload_n 0, 1) := by decide +kernel
theorem dX4_know_1 : decode cX4_know 1 = .ok (.getfield 35, 3) := by decide +kernel
theorem dX4_know_4 : decode cX4_know 4 = .ok (.bipush 122, 2) := by decide +kernel
theorem dX4_know_6 : decode cX4_know 6 = .ok (.iaload, 1) := by decide +kernel
theorem dX4_know_7 : decode cX4_know 7 = .ok (.bipush 12, 2) := by decide +kernel
theorem dX4_know_9 : decode cX4_know 9 = .ok (.if_icmp .ne 46, 3) := by decide +kernel
theorem dX4_know_12 : decode cX4_know 12 = .ok (.iconst 0, 1) := by decide +kernel
theorem dX4_know_13 : decode cX4_know 13 = .ok (.istore_n 1, 1) := by decide +kernel
theorem dX4_know_14 : decode cX4_know 14 = .ok (.iload_n 1, 1) := by decide +kernel
theorem dX4_know_15 : decode cX4_know 15 = .ok (.bipush 22, 2) := by decide +kernel
theorem dX4_know_17 : decode cX4_know 17 = .ok (.if_icmp .ge 27, 3) := by decide +kernel
theorem dX4_know_20 : decode cX4_know 20 = .ok (.aload_n 0, 1) := by decide +kernel
theorem dX4_know_21 : decode cX4_know 21 = .ok (.getfield 35, 3) := by decide +kernel
theorem dX4_know_24 : decode cX4_know 24 = .ok (.bipush 123, 2) := by decide +kernel
theorem dX4_know_26 : decode cX4_know 26 = .ok (.iload_n 1, 1) := by decide +kernel
theorem dX4_know_27 : decode cX4_know 27 = .ok (.iadd, 1) := by decide +kernel
theorem dX4_know_28 : decode cX4_know 28 = .ok (.aload_n 0, 1) := by decide +kernel
theorem dX4_know_29 : decode cX4_know 29 = .ok (.getfield 35, 3) := by decide +kernel
theorem dX4_know_32 : decode cX4_know 32 = .ok (.bipush 125, 2) := by decide +kernel
theorem dX4_know_34 : decode cX4_know 34 = .ok (.iload_n 1, 1) := by decide +kernel
theorem dX4_know_35 : decode cX4_know 35 = .ok (.iadd, 1) := by decide +kernel
theorem dX4_know_36 : decode cX4_know 36 = .ok (.iaload, 1) := by decide +kernel
theorem dX4_know_37 : decode cX4_know 37 = .ok (.iastore, 1) := by decide +kernel
theorem dX4_know_38 : decode cX4_know 38 = .ok (.iinc 1 1, 3) := by decide +kernel
theorem dX4_know_41 : decode cX4_know 41 = .ok (.goto (-27), 3) := by decide +kernel
theorem dX4_know_44 : decode cX4_know 44 = .ok (.aload_n 0, 1) := by decide +kernel
theorem dX4_know_45 : decode cX4_know 45 = .ok (.getfield 35, 3) := by decide +kernel
theorem dX4_know_48 : decode cX4_know 48 = .ok (.bipush 122, 2) := by decide +kernel
theorem dX4_know_50 : decode cX4_know 50 = .ok (.dup2, 1) := by decide +kernel
theorem dX4_know_51 : decode cX4_know 51 = .ok (.iaload, 1) := by decide +kernel
theorem dX4_know_52 : decode cX4_know 52 = .ok (.iconst 1, 1) := by decide +kernel
theorem dX4_know_53 : decode cX4_know 53 = .ok (.isub, 1) := by decide +kernel
theorem dX4_know_54 : decode cX4_know 54 = .ok (.iastore, 1) := by decide +kernel
theorem dX4_know_55 : decode cX4_know 55 = .ok (.aload_n 0, 1) := by decide +kernel
theorem dX4_know_56 : decode cX4_know 56 = .ok (.getfield 35, 3) := by decide +kernel
theorem dX4_know_59 : decode cX4_know 59 = .ok (.bipush 123, 2) := by decide +kernel
theorem dX4_know_61 : decode cX4_know 61 = .ok (.iconst 2, 1) := by decide +kernel
theorem dX4_know_62 : decode cX4_know 62 = .ok (.aload_n 0, 1) := by decide +kernel
theorem dX4_know_63 : decode cX4_know 63 = .ok (.getfield 35, 3) := by decide +kernel
theorem dX4_know_66 : decode cX4_know 66 = .ok (.bipush 122, 2) := by decide +kernel
theorem dX4_know_68 : decode cX4_know 68 = .ok (.iaload, 1) := by decide +kernel
theorem dX4_know_69 : decode cX4_know 69 = .ok (.imul, 1) := by decide +kernel
theorem dX4_know_70 : decode cX4_know 70 = .ok (.iadd, 1) := by decide +kernel
theorem dX4_know_71 : decode cX4_know 71 = .ok (.aload_n 0, 1) := by decide +kernel
theorem dX4_know_72 : decode cX4_know 72 = .ok (.getfield 35, 3) := by decide +kernel
theorem dX4_know_75 : decode cX4_know 75 = .ok (.bipush 120, 2) := by decide +kernel
theorem dX4_know_77 : decode cX4_know 77 = .ok (.iaload, 1) := by decide +kernel
theorem dX4_know_78 : decode cX4_know 78 = .ok (.iastore, 1) := by decide +kernel
theorem dX4_know_79 : decode cX4_know 79 = .ok (.aload_n 0, 1) := by decide +kernel
theorem dX4_know_80 : decode cX4_know 80 = .ok (.getfield 35, 3) := by decide +kernel
theorem dX4_know_83 : decode cX4_know 83 = .ok (.bipush 123, 2) := by decide +kernel
theorem dX4_know_85 : decode cX4_know 85 = .ok (.iconst 2, 1) := by decide +kernel
theorem dX4_know_86 : decode cX4_know 86 = .ok (.aload_n 0, 1) := by decide +kernel
theorem dX4_know_87 : decode cX4_know 87 = .ok (.getfield 35, 3) := by decide +kernel
theorem dX4_know_90 : decode cX4_know 90 = .ok (.bipush 122, 2) := by decide +kernel
theorem dX4_know_92 : decode cX4_know 92 = .ok (.iaload, 1) := by decide +kernel
theorem dX4_know_93 : decode cX4_know 93 = .ok (.imul, 1) := by decide +kernel
theorem dX4_know_94 : decode cX4_know 94 = .ok (.iadd, 1) := by decide +kernel
theorem dX4_know_95 : decode cX4_know 95 = .ok (.iconst 1, 1) := by decide +kernel
theorem dX4_know_96 : decode cX4_know 96 = .ok (.iadd, 1) := by decide +kernel
theorem dX4_know_97 : decode cX4_know 97 = .ok (.aload_n 0, 1) := by decide +kernel
theorem dX4_know_98 : decode cX4_know 98 = .ok (.getfield 35, 3) := by decide +kernel
theorem dX4_know_101 : decode cX4_know 101 = .ok (.bipush 121, 2) := by decide +kernel
theorem dX4_know_103 : decode cX4_know 103 = .ok (.iaload, 1) := by decide +kernel
theorem dX4_know_104 : decode cX4_know 104 = .ok (.iastore, 1) := by decide +kernel
theorem dX4_know_105 : decode cX4_know 105 = .ok (.aload_n 0, 1) := by decide +kernel
theorem dX4_know_106 : decode cX4_know 106 = .ok (.getfield 35, 3) := by decide +kernel
theorem dX4_know_109 : decode cX4_know 109 = .ok (.bipush 122, 2) := by decide +kernel
theorem dX4_know_111 : decode cX4_know 111 = .ok (.dup2, 1) := by decide +kernel
theorem dX4_know_112 : decode cX4_know 112 = .ok (.iaload, 1) := by decide +kernel
theorem dX4_know_113 : decode cX4_know 113 = .ok (.iconst 1, 1) := by decide +kernel
theorem dX4_know_114 : decode cX4_know 114 = .ok (.iadd, 1) := by decide +kernel
theorem dX4_know_115 : decode cX4_know 115 = .ok (.iastore, 1) := by decide +kernel
theorem dX4_know_116 : decode cX4_know 116 = .ok (.return_, 1) := by decide +kernel
theorem dX4_add_0 : decode cX4_add 0 = .ok (.aload_n 0, 1) := by decide +kernel
theorem dX4_add_1 : decode cX4_add 1 = .ok (.invokevirtual 148, 3) := by decide +kernel
theorem dX4_add_4 : decode cX4_add 4 = .ok (.aload_n 0, 1) := by decide +kernel
theorem dX4_add_5 : decode cX4_add 5 = .ok (.getfield 35, 3) := by decide +kernel
theorem dX4_add_8 : decode cX4_add 8 = .ok (.bipush 120, 2) := by decide +kernel
theorem dX4_add_10 : decode cX4_add 10 = .ok (.iaload, 1) := by decide +kernel
theorem dX4_add_11 : decode cX4_add 11 = .ok (.istore 4, 2) := by decide +kernel
theorem dX4_add_13 : decode cX4_add 13 = .ok (.aload_n 0, 1) := by decide +kernel
theorem dX4_add_14 : decode cX4_add 14 = .ok (.getfield 35, 3) := by decide +kernel
theorem dX4_add_17 : decode cX4_add 17 = .ok (.iconst 0, 1) := by decide +kernel
theorem dX4_add_18 : decode cX4_add 18 = .ok (.iload 4, 2) := by decide +kernel
theorem dX4_add_20 : decode cX4_add 20 = .ok (.iadd, 1) := by decide +kernel
theorem dX4_add_21 : decode cX4_add 21 = .ok (.iload_n 1, 1) := by decide +kernel
theorem dX4_add_22 : decode cX4_add 22 = .ok (.iastore, 1) := by decide +kernel
theorem dX4_add_23 : decode cX4_add 23 = .ok (.aload_n 0, 1) := by decide +kernel
theorem dX4_add_24 : decode cX4_add 24 = .ok (.getfield 35, 3) := by decide +kernel
theorem dX4_add_27 : decode cX4_add 27 = .ok (.bipush 30, 2) := by decide +kernel
theorem dX4_add_29 : decode cX4_add 29 = .ok (.iload 4, 2) := by decide +kernel
theorem dX4_add_31 : decode cX4_add 31 = .ok (.iadd, 1) := by decide +kernel
theorem dX4_add_32 : decode cX4_add 32 = .ok (.aload_n 0, 1) := by decide +kernel
theorem dX4_add_33 : decode cX4_add 33 = .ok (.getfield 35, 3) := by decide +kernel
theorem dX4_add_36 : decode cX4_add 36 = .ok (.bipush 121, 2) := by decide +kernel
theorem dX4_add_38 : decode cX4_add 38 = .ok (.iaload, 1) := by decide +kernel
theorem dX4_add_39 : decode cX4_add 39 = .ok (.iastore, 1) := by decide +kernel
theorem dX4_add_40 : decode cX4_add 40 = .ok (.aload_n 0, 1) := by decide +kernel
theorem dX4_add_41 : decode cX4_add 41 = .ok (.getfield 35, 3) := by decide +kernel
theorem dX4_add_44 : decode cX4_add 44 = .ok (.bipush 60, 2) := by decide +kernel
theorem dX4_add_46 : decode cX4_add 46 = .ok (.iload 4, 2) := by decide +kernel
theorem dX4_add_48 : decode cX4_add 48 = .ok (.iadd, 1) := by decide +kernel
theorem dX4_add_49 : decode cX4_add 49 = .ok (.iload_n 2, 1) := by decide +kernel
theorem dX4_add_50 : decode cX4_add 50 = .ok (.iastore, 1) := by decide +kernel
theorem dX4_add_51 : decode cX4_add 51 = .ok (.aload_n 0, 1) := by decide +kernel
theorem dX4_add_52 : decode cX4_add 52 = .ok (.getfield 35, 3) := by decide +kernel
theorem dX4_add_55 : decode cX4_add 55 = .ok (.bipush 90, 2) := by decide +kernel
theorem dX4_add_57 : decode cX4_add 57 = .ok (.iload 4, 2) := by decide +kernel
theorem dX4_add_59 : decode cX4_add 59 = .ok (.iadd, 1) := by decide +kernel
theorem dX4_add_60 : decode cX4_add 60 = .ok (.iload_n 3, 1) := by decide +kernel
theorem dX4_add_61 : decode cX4_add 61 = .ok (.iastore, 1) := by decide +kernel
theorem dX4_add_62 : decode cX4_add 62 = .ok (.aload_n 0, 1) := by decide +kernel
theorem dX4_add_63 : decode cX4_add 63 = .ok (.getfield 35, 3) := by decide +kernel
theorem dX4_add_66 : decode cX4_add 66 = .ok (.bipush 120, 2) := by decide +kernel
theorem dX4_add_68 : decode cX4_add 68 = .ok (.dup2, 1) := by decide +kernel
theorem dX4_add_69 : decode cX4_add 69 = .ok (.iaload, 1) := by decide +kernel
theorem dX4_add_70 : decode cX4_add 70 = .ok (.iconst 1, 1) := by decide +kernel
theorem dX4_add_71 : decode cX4_add 71 = .ok (.iadd, 1) := by decide +kernel
theorem dX4_add_72 : decode cX4_add 72 = .ok (.iastore, 1) := by decide +kernel
theorem dX4_add_73 : decode cX4_add 73 = .ok (.return_, 1) := by decide +kernel
theorem dX4_hears_0 : decode cX4_hears 0 = .ok (.aload_n 0, 1) := by decide +kernel
theorem dX4_hears_1 : decode cX4_hears 1 = .ok (.iload_n 1, 1) := by decide +kernel
theorem dX4_hears_2 : decode cX4_hears 2 = .ok (.invokevirtual 117, 3) := by decide +kernel
theorem dX4_hears_5 : decode cX4_hears 5 = .ok (.ifCond .eq 11, 3) := by decide +kernel
theorem dX4_hears_8 : decode cX4_hears 8 = .ok (.aload_n 0, 1) := by decide +kernel
theorem dX4_hears_9 : decode cX4_hears 9 = .ok (.iload_n 1, 1) := by decide +kernel
theorem dX4_hears_10 : decode cX4_hears 10 = .ok (.invokevirtual 120, 3) := by decide +kernel
theorem dX4_hears_13 : decode cX4_hears 13 = .ok (.ifCond .ne 5, 3) := by decide +kernel
theorem dX4_hears_16 : decode cX4_hears 16 = .ok (.iconst (-1), 1) := by decide +kernel
theorem dX4_hears_17 : decode cX4_hears 17 = .ok (.ireturn, 1) := by decide +kernel
theorem dX4_hears_18 : decode cX4_hears 18 = .ok (.aload_n 0, 1) := by decide +kernel
theorem dX4_hears_19 : decode cX4_hears 19 = .ok (.getfield 35, 3) := by decide +kernel
theorem dX4_hears_22 : decode cX4_hears 22 = .ok (.bipush 120, 2) := by decide +kernel
theorem dX4_hears_24 : decode cX4_hears 24 = .ok (.iaload, 1) := by decide +kernel
theorem dX4_hears_25 : decode cX4_hears 25 = .ok (.bipush 30, 2) := by decide +kernel
theorem dX4_hears_27 : decode cX4_hears 27 = .ok (.if_icmp .ne 6, 3) := by decide +kernel
theorem dX4_hears_30 : decode cX4_hears 30 = .ok (.bipush (-3), 2) := by decide +kernel
theorem dX4_hears_32 : decode cX4_hears 32 = .ok (.ireturn, 1) := by decide +kernel
theorem dX4_hears_33 : decode cX4_hears 33 = .ok (.aload_n 0, 1) := by decide +kernel
theorem dX4_hears_34 : decode cX4_hears 34 = .ok (.iload_n 1, 1) := by decide +kernel
theorem dX4_hears_35 : decode cX4_hears 35 = .ok (.bipush (-9), 2) := by decide +kernel
theorem dX4_hears_37 : decode cX4_hears 37 = .ok (.bipush (-9), 2) := by decide +kernel
theorem dX4_hears_39 : decode cX4_hears 39 = .ok (.invokevirtual 151, 3) := by decide +kernel
theorem dX4_hears_42 : decode cX4_hears 42 = .ok (.aload_n 0, 1) := by decide +kernel
theorem dX4_hears_43 : decode cX4_hears 43 = .ok (.getfield 35, 3) := by decide +kernel
theorem dX4_hears_46 : decode cX4_hears 46 = .ok (.bipush 120, 2) := by decide +kernel
theorem dX4_hears_48 : decode cX4_hears 48 = .ok (.iaload, 1) := by decide +kernel
theorem dX4_hears_49 : decode cX4_hears 49 = .ok (.iconst 1, 1) := by decide +kernel
theorem dX4_hears_50 : decode cX4_hears 50 = .ok (.isub, 1) := by decide +kernel
theorem dX4_hears_51 : decode cX4_hears 51 = .ok (.ireturn, 1) := by decide +kernel
theorem dX4_says_0 : decode cX4_says 0 = .ok (.aload_n 0, 1) := by decide +kernel
theorem dX4_says_1 : decode cX4_says 1 = .ok (.iload_n 1, 1) := by decide +kernel
theorem dX4_says_2 : decode cX4_says 2 = .ok (.invokevirtual 130, 3) := by decide +kernel
theorem dX4_says_5 : decode cX4_says 5 = .ok (.ifCond .eq 19, 3) := by decide +kernel
theorem dX4_says_8 : decode cX4_says 8 = .ok (.aload_n 0, 1) := by decide +kernel
theorem dX4_says_9 : decode cX4_says 9 = .ok (.iload_n 2, 1) := by decide +kernel
theorem dX4_says_10 : decode cX4_says 10 = .ok (.invokevirtual 117, 3) := by decide +kernel
theorem dX4_says_13 : decode cX4_says 13 = .ok (.ifCond .eq 11, 3) := by decide +kernel
theorem dX4_says_16 : decode cX4_says 16 = .ok (.aload_n 0, 1) := by decide +kernel
theorem dX4_says_17 : decode cX4_says 17 = .ok (.iload_n 2, 1) := by decide +kernel
theorem dX4_says_18 : decode cX4_says 18 = .ok (.invokevirtual 120, 3) := by decide +kernel
theorem dX4_says_21 : decode cX4_says 21 = .ok (.ifCond .eq 5, 3) := by decide +kernel
theorem dX4_says_24 : decode cX4_says 24 = .ok (.iconst (-1), 1) := by decide +kernel
theorem dX4_says_25 : decode cX4_says 25 = .ok (.ireturn, 1) := by decide +kernel
theorem dX4_says_26 : decode cX4_says 26 = .ok (.bipush (-9), 2) := by decide +kernel
theorem dX4_says_28 : decode cX4_says 28 = .ok (.istore_n 3, 1) := by decide +kernel
theorem dX4_says_29 : decode cX4_says 29 = .ok (.iconst 0, 1) := by decide +kernel
theorem dX4_says_30 : decode cX4_says 30 = .ok (.istore 4, 2) := by decide +kernel
theorem dX4_says_32 : decode cX4_says 32 = .ok (.iload 4, 2) := by decide +kernel
theorem dX4_says_34 : decode cX4_says 34 = .ok (.aload_n 0, 1) := by decide +kernel
theorem dX4_says_35 : decode cX4_says 35 = .ok (.getfield 35, 3) := by decide +kernel
theorem dX4_says_38 : decode cX4_says 38 = .ok (.bipush 120, 2) := by decide +kernel
theorem dX4_says_40 : decode cX4_says 40 = .ok (.iaload, 1) := by decide +kernel
theorem dX4_says_41 : decode cX4_says 41 = .ok (.if_icmp .ge 54, 3) := by decide +kernel
theorem dX4_says_44 : decode cX4_says 44 = .ok (.aload_n 0, 1) := by decide +kernel
theorem dX4_says_45 : decode cX4_says 45 = .ok (.iload 4, 2) := by decide +kernel
theorem dX4_says_47 : decode cX4_says 47 = .ok (.aload_n 0, 1) := by decide +kernel
theorem dX4_says_48 : decode cX4_says 48 = .ok (.getfield 35, 3) := by decide +kernel
theorem dX4_says_51 : decode cX4_says 51 = .ok (.bipush 121, 2) := by decide +kernel
theorem dX4_says_53 : decode cX4_says 53 = .ok (.iaload, 1) := by decide +kernel
theorem dX4_says_54 : decode cX4_says 54 = .ok (.invokevirtual 113, 3) := by decide +kernel
theorem dX4_says_57 : decode cX4_says 57 = .ok (.ifCond .eq 30, 3) := by decide +kernel
theorem dX4_says_60 : decode cX4_says 60 = .ok (.aload_n 0, 1) := by decide +kernel
theorem dX4_says_61 : decode cX4_says 61 = .ok (.getfield 20, 3) := by decide +kernel
theorem dX4_says_64 : decode cX4_says 64 = .ok (.iload_n 2, 1) := by decide +kernel
theorem dX4_says_65 : decode cX4_says 65 = .ok (.iaload, 1) := by decide +kernel
theorem dX4_says_66 : decode cX4_says 66 = .ok (.aload_n 0, 1) := by decide +kernel
theorem dX4_says_67 : decode cX4_says 67 = .ok (.getfield 35, 3) := by decide +kernel
theorem dX4_says_70 : decode cX4_says 70 = .ok (.iconst 0, 1) := by decide +kernel
theorem dX4_says_71 : decode cX4_says 71 = .ok (.iload 4, 2) := by decide +kernel
theorem dX4_says_73 : decode cX4_says 73 = .ok (.iadd, 1) := by decide +kernel
theorem dX4_says_74 : decode cX4_says 74 = .ok (.iaload, 1) := by decide +kernel
theorem dX4_says_75 : decode cX4_says 75 = .ok (.ishr, 1) := by decide +kernel
theorem dX4_says_76 : decode cX4_says 76 = .ok (.iconst 1, 1) := by decide +kernel
theorem dX4_says_77 : decode cX4_says 77 = .ok (.iand, 1) := by decide +kernel
theorem dX4_says_78 : decode cX4_says 78 = .ok (.iconst 1, 1) := by decide +kernel
theorem dX4_says_79 : decode cX4_says 79 = .ok (.if_icmp .ne 8, 3) := by decide +kernel
theorem dX4_says_82 : decode cX4_says 82 = .ok (.iload 4, 2) := by decide +kernel
theorem dX4_says_84 : decode cX4_says 84 = .ok (.goto 4, 3) := by decide +kernel
theorem dX4_says_87 : decode cX4_says 87 = .ok (.iload_n 3, 1) := by decide +kernel
theorem dX4_says_88 : decode cX4_says 88 = .ok (.istore_n 3, 1) := by decide +kernel
theorem dX4_says_89 : decode cX4_says 89 = .ok (.iinc 4 1, 3) := by decide +kernel
theorem dX4_says_92 : decode cX4_says 92 = .ok (.goto (-60), 3) := by decide +kernel
theorem dX4_says_95 : decode cX4_says 95 = .ok (.aload_n 0, 1) := by decide +kernel
theorem dX4_says_96 : decode cX4_says 96 = .ok (.getfield 29, 3) := by decide +kernel
theorem dX4_says_99 : decode cX4_says 99 = .ok (.iload_n 1, 1) := by decide +kernel
theorem dX4_says_100 : decode cX4_says 100 = .ok (.iaload, 1) := by decide +kernel
theorem dX4_says_101 : decode cX4_says 101 = .ok (.iload_n 2, 1) := by decide +kernel
theorem dX4_says_102 : decode cX4_says 102 = .ok (.ishr, 1) := by decide +kernel
theorem dX4_says_103 : decode cX4_says 103 = .ok (.iconst 1, 1) := by decide +kernel
theorem dX4_says_104 : decode cX4_says 104 = .ok (.iand, 1) := by decide +kernel
theorem dX4_says_105 : decode cX4_says 105 = .ok (.ifCond .eq 9, 3) := by decide +kernel
theorem dX4_says_108 : decode cX4_says 108 = .ok (.iload_n 3, 1) := by decide +kernel
theorem dX4_says_109 : decode cX4_says 109 = .ok (.bipush (-9), 2) := by decide +kernel
theorem dX4_says_111 : decode cX4_says 111 = .ok (.if_icmp .ne 6, 3) := by decide +kernel
theorem dX4_says_114 : decode cX4_says 114 = .ok (.bipush (-2), 2) := by decide +kernel
theorem dX4_says_116 : decode cX4_says 116 = .ok (.ireturn, 1) := by decide +kernel
theorem dX4_says_117 : decode cX4_says 117 = .ok (.aload_n 0, 1) := by decide +kernel
theorem dX4_says_118 : decode cX4_says 118 = .ok (.getfield 35, 3) := by decide +kernel
theorem dX4_says_121 : decode cX4_says 121 = .ok (.bipush 120, 2) := by decide +kernel
theorem dX4_says_123 : decode cX4_says 123 = .ok (.iaload, 1) := by decide +kernel
theorem dX4_says_124 : decode cX4_says 124 = .ok (.bipush 30, 2) := by decide +kernel
theorem dX4_says_126 : decode cX4_says 126 = .ok (.if_icmp .ne 6, 3) := by decide +kernel
theorem dX4_says_129 : decode cX4_says 129 = .ok (.bipush (-3), 2) := by decide +kernel
theorem dX4_says_131 : decode cX4_says 131 = .ok (.ireturn, 1) := by decide +kernel
theorem dX4_says_132 : decode cX4_says 132 = .ok (.aload_n 0, 1) := by decide +kernel
theorem dX4_says_133 : decode cX4_says 133 = .ok (.iload_n 2, 1) := by decide +kernel
theorem dX4_says_134 : decode cX4_says 134 = .ok (.iload_n 1, 1) := by decide +kernel
theorem dX4_says_135 : decode cX4_says 135 = .ok (.iload_n 3, 1) := by decide +kernel
theorem dX4_says_136 : decode cX4_says 136 = .ok (.invokevirtual 151, 3) := by decide +kernel
theorem dX4_says_139 : decode cX4_says 139 = .ok (.iload_n 3, 1) := by decide +kernel
theorem dX4_says_140 : decode cX4_says 140 = .ok (.ireturn, 1) := by decide +kernel
theorem dX4_hour_0 : decode cX4_hour 0 = .ok (.aload_n 0, 1) := by decide +kernel
theorem dX4_hour_1 : decode cX4_hour 1 = .ok (.getfield 35, 3) := by decide +kernel
theorem dX4_hour_4 : decode cX4_hour 4 = .ok (.bipush 121, 2) := by decide +kernel
theorem dX4_hour_6 : decode cX4_hour 6 = .ok (.iaload, 1) := by decide +kernel
theorem dX4_hour_7 : decode cX4_hour 7 = .ok (.bipush 99, 2) := by decide +kernel
theorem dX4_hour_9 : decode cX4_hour 9 = .ok (.if_icmp .ne 6, 3) := by decide +kernel
theorem dX4_hour_12 : decode cX4_hour 12 = .ok (.bipush (-2), 2) := by decide +kernel
theorem dX4_hour_14 : decode cX4_hour 14 = .ok (.ireturn, 1) := by decide +kernel
theorem dX4_hour_15 : decode cX4_hour 15 = .ok (.aload_n 0, 1) := by decide +kernel
theorem dX4_hour_16 : decode cX4_hour 16 = .ok (.invokevirtual 148, 3) := by decide +kernel
theorem dX4_hour_19 : decode cX4_hour 19 = .ok (.aload_n 0, 1) := by decide +kernel
theorem dX4_hour_20 : decode cX4_hour 20 = .ok (.getfield 35, 3) := by decide +kernel
theorem dX4_hour_23 : decode cX4_hour 23 = .ok (.bipush 121, 2) := by decide +kernel
theorem dX4_hour_25 : decode cX4_hour 25 = .ok (.dup2, 1) := by decide +kernel
theorem dX4_hour_26 : decode cX4_hour 26 = .ok (.iaload, 1) := by decide +kernel
theorem dX4_hour_27 : decode cX4_hour 27 = .ok (.iconst 1, 1) := by decide +kernel
theorem dX4_hour_28 : decode cX4_hour 28 = .ok (.iadd, 1) := by decide +kernel
theorem dX4_hour_29 : decode cX4_hour 29 = .ok (.iastore, 1) := by decide +kernel
theorem dX4_hour_30 : decode cX4_hour 30 = .ok (.aload_n 0, 1) := by decide +kernel
theorem dX4_hour_31 : decode cX4_hour 31 = .ok (.getfield 35, 3) := by decide +kernel
theorem dX4_hour_34 : decode cX4_hour 34 = .ok (.bipush 121, 2) := by decide +kernel
theorem dX4_hour_36 : decode cX4_hour 36 = .ok (.iaload, 1) := by decide +kernel
theorem dX4_hour_37 : decode cX4_hour 37 = .ok (.ireturn, 1) := by decide +kernel
theorem dX4_undo_0 : decode cX4_undo 0 = .ok (.aload_n 0, 1) := by decide +kernel
theorem dX4_undo_1 : decode cX4_undo 1 = .ok (.getfield 35, 3) := by decide +kernel
theorem dX4_undo_4 : decode cX4_undo 4 = .ok (.bipush 122, 2) := by decide +kernel
theorem dX4_undo_6 : decode cX4_undo 6 = .ok (.iaload, 1) := by decide +kernel
theorem dX4_undo_7 : decode cX4_undo 7 = .ok (.ifCond .ne 6, 3) := by decide +kernel
theorem dX4_undo_10 : decode cX4_undo 10 = .ok (.bipush (-2), 2) := by decide +kernel
theorem dX4_undo_12 : decode cX4_undo 12 = .ok (.ireturn, 1) := by decide +kernel
theorem dX4_undo_13 : decode cX4_undo 13 = .ok (.aload_n 0, 1) := by decide +kernel
theorem dX4_undo_14 : decode cX4_undo 14 = .ok (.getfield 35, 3) := by decide +kernel
theorem dX4_undo_17 : decode cX4_undo 17 = .ok (.bipush 122, 2) := by decide +kernel
theorem dX4_undo_19 : decode cX4_undo 19 = .ok (.dup2, 1) := by decide +kernel
theorem dX4_undo_20 : decode cX4_undo 20 = .ok (.iaload, 1) := by decide +kernel
theorem dX4_undo_21 : decode cX4_undo 21 = .ok (.iconst 1, 1) := by decide +kernel
theorem dX4_undo_22 : decode cX4_undo 22 = .ok (.isub, 1) := by decide +kernel
theorem dX4_undo_23 : decode cX4_undo 23 = .ok (.iastore, 1) := by decide +kernel
theorem dX4_undo_24 : decode cX4_undo 24 = .ok (.aload_n 0, 1) := by decide +kernel
theorem dX4_undo_25 : decode cX4_undo 25 = .ok (.getfield 35, 3) := by decide +kernel
theorem dX4_undo_28 : decode cX4_undo 28 = .ok (.bipush 120, 2) := by decide +kernel
theorem dX4_undo_30 : decode cX4_undo 30 = .ok (.aload_n 0, 1) := by decide +kernel
theorem dX4_undo_31 : decode cX4_undo 31 = .ok (.getfield 35, 3) := by decide +kernel
theorem dX4_undo_34 : decode cX4_undo 34 = .ok (.bipush 123, 2) := by decide +kernel
theorem dX4_undo_36 : decode cX4_undo 36 = .ok (.iconst 2, 1) := by decide +kernel
theorem dX4_undo_37 : decode cX4_undo 37 = .ok (.aload_n 0, 1) := by decide +kernel
theorem dX4_undo_38 : decode cX4_undo 38 = .ok (.getfield 35, 3) := by decide +kernel
theorem dX4_undo_41 : decode cX4_undo 41 = .ok (.bipush 122, 2) := by decide +kernel
theorem dX4_undo_43 : decode cX4_undo 43 = .ok (.iaload, 1) := by decide +kernel
theorem dX4_undo_44 : decode cX4_undo 44 = .ok (.imul, 1) := by decide +kernel
theorem dX4_undo_45 : decode cX4_undo 45 = .ok (.iadd, 1) := by decide +kernel
theorem dX4_undo_46 : decode cX4_undo 46 = .ok (.iaload, 1) := by decide +kernel
theorem dX4_undo_47 : decode cX4_undo 47 = .ok (.iastore, 1) := by decide +kernel
theorem dX4_undo_48 : decode cX4_undo 48 = .ok (.aload_n 0, 1) := by decide +kernel
theorem dX4_undo_49 : decode cX4_undo 49 = .ok (.getfield 35, 3) := by decide +kernel
theorem dX4_undo_52 : decode cX4_undo 52 = .ok (.bipush 121, 2) := by decide +kernel
theorem dX4_undo_54 : decode cX4_undo 54 = .ok (.aload_n 0, 1) := by decide +kernel
theorem dX4_undo_55 : decode cX4_undo 55 = .ok (.getfield 35, 3) := by decide +kernel
theorem dX4_undo_58 : decode cX4_undo 58 = .ok (.bipush 123, 2) := by decide +kernel
theorem dX4_undo_60 : decode cX4_undo 60 = .ok (.iconst 2, 1) := by decide +kernel
theorem dX4_undo_61 : decode cX4_undo 61 = .ok (.aload_n 0, 1) := by decide +kernel
theorem dX4_undo_62 : decode cX4_undo 62 = .ok (.getfield 35, 3) := by decide +kernel
theorem dX4_undo_65 : decode cX4_undo 65 = .ok (.bipush 122, 2) := by decide +kernel
theorem dX4_undo_67 : decode cX4_undo 67 = .ok (.iaload, 1) := by decide +kernel
theorem dX4_undo_68 : decode cX4_undo 68 = .ok (.imul, 1) := by decide +kernel
theorem dX4_undo_69 : decode cX4_undo 69 = .ok (.iadd, 1) := by decide +kernel
theorem dX4_undo_70 : decode cX4_undo 70 = .ok (.iconst 1, 1) := by decide +kernel
theorem dX4_undo_71 : decode cX4_undo 71 = .ok (.iadd, 1) := by decide +kernel
theorem dX4_undo_72 : decode cX4_undo 72 = .ok (.iaload, 1) := by decide +kernel
theorem dX4_undo_73 : decode cX4_undo 73 = .ok (.iastore, 1) := by decide +kernel
theorem dX4_undo_74 : decode cX4_undo 74 = .ok (.aload_n 0, 1) := by decide +kernel
theorem dX4_undo_75 : decode cX4_undo 75 = .ok (.getfield 35, 3) := by decide +kernel
theorem dX4_undo_78 : decode cX4_undo 78 = .ok (.bipush 122, 2) := by decide +kernel
theorem dX4_undo_80 : decode cX4_undo 80 = .ok (.iaload, 1) := by decide +kernel
theorem dX4_undo_81 : decode cX4_undo 81 = .ok (.ireturn, 1) := by decide +kernel
theorem dX4_farthest_0 : decode cX4_farthest 0 = .ok (.bipush (-9), 2) := by decide +kernel
theorem dX4_farthest_2 : decode cX4_farthest 2 = .ok (.istore_n 1, 1) := by decide +kernel
theorem dX4_farthest_3 : decode cX4_farthest 3 = .ok (.iconst 0, 1) := by decide +kernel
theorem dX4_farthest_4 : decode cX4_farthest 4 = .ok (.istore_n 2, 1) := by decide +kernel
theorem dX4_farthest_5 : decode cX4_farthest 5 = .ok (.iload_n 2, 1) := by decide +kernel
theorem dX4_farthest_6 : decode cX4_farthest 6 = .ok (.aload_n 0, 1) := by decide +kernel
theorem dX4_farthest_7 : decode cX4_farthest 7 = .ok (.getfield 35, 3) := by decide +kernel
