theorem dX13_thrown_0 : decode cX13_thrown 0 = .ok (.aload_n 0, 1) := by decide +kernel
theorem dX13_thrown_1 : decode cX13_thrown 1 = .ok (.getfield 1, 3) := by decide +kernel
theorem dX13_thrown_4 : decode cX13_thrown 4 = .ok (.ireturn, 1) := by decide +kernel
theorem dX13_fails_0 : decode cX13_fails 0 = .ok (.aload_n 0, 1) := by decide +kernel
theorem dX13_fails_1 : decode cX13_fails 1 = .ok (.iload_n 1, 1) := by decide +kernel
theorem dX13_fails_2 : decode cX13_fails 2 = .ok (.putfield 1, 3) := by decide +kernel
theorem dX13_fails_5 : decode cX13_fails 5 = .ok (.iconst 0, 1) := by decide +kernel
theorem dX13_fails_6 : decode cX13_fails 6 = .ok (.ireturn, 1) := by decide +kernel
theorem dX13_isBetween_0 : decode cX13_isBetween 0 = .ok (.iload_n 1, 1) := by decide +kernel
theorem dX13_isBetween_1 : decode cX13_isBetween 1 = .ok (.iload_n 0, 1) := by decide +kernel
theorem dX13_isBetween_2 : decode cX13_isBetween 2 = .ok (.if_icmp .gt 12, 3) := by decide +kernel
theorem dX13_isBetween_5 : decode cX13_isBetween 5 = .ok (.iload_n 0, 1) := by decide +kernel
theorem dX13_isBetween_6 : decode cX13_isBetween 6 = .ok (.iload_n 2, 1) := by decide +kernel
theorem dX13_isBetween_7 : decode cX13_isBetween 7 = .ok (.if_icmp .gt 7, 3) := by decide +kernel
theorem dX13_isBetween_10 : decode cX13_isBetween 10 = .ok (.iconst 1, 1) := by decide +kernel
theorem dX13_isBetween_11 : decode cX13_isBetween 11 = .ok (.goto 4, 3) := by decide +kernel
theorem dX13_isBetween_14 : decode cX13_isBetween 14 = .ok (.iconst 0, 1) := by decide +kernel
theorem dX13_isBetween_15 : decode cX13_isBetween 15 = .ok (.ireturn, 1) := by decide +kernel
theorem dX13_init_0 : decode cX13_init 0 = .ok (.aload_n 0, 1) := by decide +kernel
theorem dX13_init_1 : decode cX13_init 1 = .ok (.invokespecial 7, 3) := by decide +kernel
theorem dX13_init_4 : decode cX13_init 4 = .ok (.aload_n 0, 1) := by decide +kernel
theorem dX13_init_5 : decode cX13_init 5 = .ok (.sipush 201, 3) := by decide +kernel
theorem dX13_init_8 : decode cX13_init 8 = .ok (.newarray .int, 2) := by decide +kernel
theorem dX13_init_10 : decode cX13_init 10 = .ok (.putfield 13, 3) := by decide +kernel
theorem dX13_init_13 : decode cX13_init 13 = .ok (.aload_n 0, 1) := by decide +kernel
theorem dX13_init_14 : decode cX13_init 14 = .ok (.sipush 1608, 3) := by decide +kernel
theorem dX13_init_17 : decode cX13_init 17 = .ok (.newarray .int, 2) := by decide +kernel
theorem dX13_init_19 : decode cX13_init 19 = .ok (.putfield 17, 3) := by decide +kernel
theorem dX13_init_22 : decode cX13_init 22 = .ok (.aload_n 0, 1) := by decide +kernel
theorem dX13_init_23 : decode cX13_init 23 = .ok (.sipush 201, 3) := by decide +kernel
theorem dX13_init_26 : decode cX13_init 26 = .ok (.newarray .int, 2) := by decide +kernel
theorem dX13_init_28 : decode cX13_init 28 = .ok (.putfield 20, 3) := by decide +kernel
theorem dX13_init_31 : decode cX13_init 31 = .ok (.aload_n 0, 1) := by decide +kernel
theorem dX13_init_32 : decode cX13_init 32 = .ok (.sipush 201, 3) := by decide +kernel
theorem dX13_init_35 : decode cX13_init 35 = .ok (.newarray .int, 2) := by decide +kernel
theorem dX13_init_37 : decode cX13_init 37 = .ok (.putfield 23, 3) := by decide +kernel
theorem dX13_init_40 : decode cX13_init 40 = .ok (.aload_n 0, 1) := by decide +kernel
theorem dX13_init_41 : decode cX13_init 41 = .ok (.sipush 1010, 3) := by decide +kernel
theorem dX13_init_44 : decode cX13_init 44 = .ok (.newarray .int, 2) := by decide +kernel
theorem dX13_init_46 : decode cX13_init 46 = .ok (.putfield 26, 3) := by decide +kernel
theorem dX13_init_49 : decode cX13_init 49 = .ok (.aload_n 0, 1) := by decide +kernel
theorem dX13_init_50 : decode cX13_init 50 = .ok (.sipush 200, 3) := by decide +kernel
theorem dX13_init_53 : decode cX13_init 53 = .ok (.newarray .char, 2) := by decide +kernel
theorem dX13_init_55 : decode cX13_init 55 = .ok (.putfield 29, 3) := by decide +kernel
theorem dX13_init_58 : decode cX13_init 58 = .ok (.aload_n 0, 1) := by decide +kernel
theorem dX13_init_59 : decode cX13_init 59 = .ok (.bipush 60, 2) := by decide +kernel
theorem dX13_init_61 : decode cX13_init 61 = .ok (.newarray .char, 2) := by decide +kernel
theorem dX13_init_63 : decode cX13_init 63 = .ok (.putfield 33, 3) := by decide +kernel
theorem dX13_init_66 : decode cX13_init 66 = .ok (.aload_n 0, 1) := by decide +kernel
theorem dX13_init_67 : decode cX13_init 67 = .ok (.iconst (-1), 1) := by decide +kernel
theorem dX13_init_68 : decode cX13_init 68 = .ok (.putfield 36, 3) := by decide +kernel
theorem dX13_init_71 : decode cX13_init 71 = .ok (.aload_n 0, 1) := by decide +kernel
theorem dX13_init_72 : decode cX13_init 72 = .ok (.iconst (-1), 1) := by decide +kernel
theorem dX13_init_73 : decode cX13_init 73 = .ok (.putfield 39, 3) := by decide +kernel
theorem dX13_init_76 : decode cX13_init 76 = .ok (.aload_n 0, 1) := by decide +kernel
theorem dX13_init_77 : decode cX13_init 77 = .ok (.iconst 3, 1) := by decide +kernel
theorem dX13_init_78 : decode cX13_init 78 = .ok (.newarray .int, 2) := by decide +kernel
theorem dX13_init_80 : decode cX13_init 80 = .ok (.putfield 42, 3) := by decide +kernel
theorem dX13_init_83 : decode cX13_init 83 = .ok (.aload_n 0, 1) := by decide +kernel
theorem dX13_init_84 : decode cX13_init 84 = .ok (.getfield 13, 3) := by decide +kernel
theorem dX13_init_87 : decode cX13_init 87 = .ok (.iconst 5, 1) := by decide +kernel
theorem dX13_init_88 : decode cX13_init 88 = .ok (.iconst 1, 1) := by decide +kernel
theorem dX13_init_89 : decode cX13_init 89 = .ok (.iastore, 1) := by decide +kernel
theorem dX13_init_90 : decode cX13_init 90 = .ok (.aload_n 0, 1) := by decide +kernel
theorem dX13_init_91 : decode cX13_init 91 = .ok (.getfield 13, 3) := by decide +kernel
theorem dX13_init_94 : decode cX13_init 94 = .ok (.bipush 6, 2) := by decide +kernel
theorem dX13_init_96 : decode cX13_init 96 = .ok (.iconst 5, 1) := by decide +kernel
theorem dX13_init_97 : decode cX13_init 97 = .ok (.iastore, 1) := by decide +kernel
theorem dX13_init_98 : decode cX13_init 98 = .ok (.aload_n 0, 1) := by decide +kernel
theorem dX13_init_99 : decode cX13_init 99 = .ok (.getfield 13, 3) := by decide +kernel
theorem dX13_init_102 : decode cX13_init 102 = .ok (.bipush 7, 2) := by decide +kernel
theorem dX13_init_104 : decode cX13_init 104 = .ok (.bipush 98, 2) := by decide +kernel
theorem dX13_init_106 : decode cX13_init 106 = .ok (.iastore, 1) := by decide +kernel
theorem dX13_init_107 : decode cX13_init 107 = .ok (.return_, 1) := by decide +kernel
theorem dX13_copies_0 : decode cX13_copies 0 = .ok (.iconst 0, 1) := by decide +kernel
theorem dX13_copies_1 : decode cX13_copies 1 = .ok (.istore_n 1, 1) := by decide +kernel
theorem dX13_copies_2 : decode cX13_copies 2 = .ok (.iload_n 1, 1) := by decide +kernel
theorem dX13_copies_3 : decode cX13_copies 3 = .ok (.sipush 201, 3) := by decide +kernel
theorem dX13_copies_6 : decode cX13_copies 6 = .ok (.if_icmp .ge 21, 3) := by decide +kernel
theorem dX13_copies_9 : decode cX13_copies 9 = .ok (.aload_n 0, 1) := by decide +kernel
theorem dX13_copies_10 : decode cX13_copies 10 = .ok (.getfield 23, 3) := by decide +kernel
theorem dX13_copies_13 : decode cX13_copies 13 = .ok (.iload_n 1, 1) := by decide +kernel
theorem dX13_copies_14 : decode cX13_copies 14 = .ok (.aload_n 0, 1) := by decide +kernel
theorem dX13_copies_15 : decode cX13_copies 15 = .ok (.getfield 13, 3) := by decide +kernel
theorem dX13_copies_18 : decode cX13_copies 18 = .ok (.iload_n 1, 1) := by decide +kernel
theorem dX13_copies_19 : decode cX13_copies 19 = .ok (.iaload, 1) := by decide +kernel
theorem dX13_copies_20 : decode cX13_copies 20 = .ok (.iastore, 1) := by decide +kernel
theorem dX13_copies_21 : decode cX13_copies 21 = .ok (.iinc 1 1, 3) := by decide +kernel
theorem dX13_copies_24 : decode cX13_copies 24 = .ok (.goto (-22), 3) := by decide +kernel
theorem dX13_copies_27 : decode cX13_copies 27 = .ok (.return_, 1) := by decide +kernel
theorem dX13_goesBack_0 : decode cX13_goesBack 0 = .ok (.iconst 0, 1) := by decide +kernel
theorem dX13_goesBack_1 : decode cX13_goesBack 1 = .ok (.istore_n 1, 1) := by decide +kernel
theorem dX13_goesBack_2 : decode cX13_goesBack 2 = .ok (.iload_n 1, 1) := by decide +kernel
theorem dX13_goesBack_3 : decode cX13_goesBack 3 = .ok (.sipush 201, 3) := by decide +kernel
theorem dX13_goesBack_6 : decode cX13_goesBack 6 = .ok (.if_icmp .ge 21, 3) := by decide +kernel
theorem dX13_goesBack_9 : decode cX13_goesBack 9 = .ok (.aload_n 0, 1) := by decide +kernel
theorem dX13_goesBack_10 : decode cX13_goesBack 10 = .ok (.getfield 13, 3) := by decide +kernel
theorem dX13_goesBack_13 : decode cX13_goesBack 13 = .ok (.iload_n 1, 1) := by decide +kernel
theorem dX13_goesBack_14 : decode cX13_goesBack 14 = .ok (.aload_n 0, 1) := by decide +kernel
theorem dX13_goesBack_15 : decode cX13_goesBack 15 = .ok (.getfield 23, 3) := by decide +kernel
theorem dX13_goesBack_18 : decode cX13_goesBack 18 = .ok (.iload_n 1, 1) := by decide +kernel
theorem dX13_goesBack_19 : decode cX13_goesBack 19 = .ok (.iaload, 1) := by decide +kernel
theorem dX13_goesBack_20 : decode cX13_goesBack 20 = .ok (.iastore, 1) := by decide +kernel
theorem dX13_goesBack_21 : decode cX13_goesBack 21 = .ok (.iinc 1 1, 3) := by decide +kernel
theorem dX13_goesBack_24 : decode cX13_goesBack 24 = .ok (.goto (-22), 3) := by decide +kernel
theorem dX13_goesBack_27 : decode cX13_goesBack 27 = .ok (.return_, 1) := by decide +kernel
theorem dX13_keeps_0 : decode cX13_keeps 0 = .ok (.aload_n 0, 1) := by decide +kernel
theorem dX13_keeps_1 : decode cX13_keeps 1 = .ok (.getfield 45, 3) := by decide +kernel
theorem dX13_keeps_4 : decode cX13_keeps 4 = .ok (.bipush 8, 2) := by decide +kernel
theorem dX13_keeps_6 : decode cX13_keeps 6 = .ok (.if_icmp .ne 26, 3) := by decide +kernel
theorem dX13_keeps_9 : decode cX13_keeps 9 = .ok (.aload_n 0, 1) := by decide +kernel
theorem dX13_keeps_10 : decode cX13_keeps 10 = .ok (.aload_n 0, 1) := by decide +kernel
theorem dX13_keeps_11 : decode cX13_keeps 11 = .ok (.getfield 48, 3) := by decide +kernel
theorem dX13_keeps_14 : decode cX13_keeps 14 = .ok (.iconst 1, 1) := by decide +kernel
theorem dX13_keeps_15 : decode cX13_keeps 15 = .ok (.iadd, 1) := by decide +kernel
theorem dX13_keeps_16 : decode cX13_keeps 16 = .ok (.bipush 8, 2) := by decide +kernel
theorem dX13_keeps_18 : decode cX13_keeps 18 = .ok (.irem, 1) := by decide +kernel
theorem dX13_keeps_19 : decode cX13_keeps 19 = .ok (.putfield 48, 3) := by decide +kernel
theorem dX13_keeps_22 : decode cX13_keeps 22 = .ok (.aload_n 0, 1) := by decide +kernel
theorem dX13_keeps_23 : decode cX13_keeps 23 = .ok (.dup, 1) := by decide +kernel
theorem dX13_keeps_24 : decode cX13_keeps 24 = .ok (.getfield 45, 3) := by decide +kernel
theorem dX13_keeps_27 : decode cX13_keeps 27 = .ok (.iconst 1, 1) := by decide +kernel
theorem dX13_keeps_28 : decode cX13_keeps 28 = .ok (.isub, 1) := by decide +kernel
theorem dX13_keeps_29 : decode cX13_keeps 29 = .ok (.putfield 45, 3) := by decide +kernel
theorem dX13_keeps_32 : decode cX13_keeps 32 = .ok (.aload_n 0, 1) := by decide +kernel
theorem dX13_keeps_33 : decode cX13_keeps 33 = .ok (.getfield 48, 3) := by decide +kernel
theorem dX13_keeps_36 : decode cX13_keeps 36 = .ok (.aload_n 0, 1) := by decide +kernel
theorem dX13_keeps_37 : decode cX13_keeps 37 = .ok (.getfield 45, 3) := by decide +kernel
theorem dX13_keeps_40 : decode cX13_keeps 40 = .ok (.iadd, 1) := by decide +kernel
theorem dX13_keeps_41 : decode cX13_keeps 41 = .ok (.bipush 8, 2) := by decide +kernel
theorem dX13_keeps_43 : decode cX13_keeps 43 = .ok (.irem, 1) := by decide +kernel
theorem dX13_keeps_44 : decode cX13_keeps 44 = .ok (.istore_n 1, 1) := by decide +kernel
theorem dX13_keeps_45 : decode cX13_keeps 45 = .ok (.iconst 0, 1) := by decide +kernel
theorem dX13_keeps_46 : decode cX13_keeps 46 = .ok (.istore_n 2, 1) := by decide +kernel
theorem dX13_keeps_47 : decode cX13_keeps 47 = .ok (.iload_n 2, 1) := by decide +kernel
theorem dX13_keeps_48 : decode cX13_keeps 48 = .ok (.sipush 201, 3) := by decide +kernel
theorem dX13_keeps_51 : decode cX13_keeps 51 = .ok (.if_icmp .ge 27, 3) := by decide +kernel
theorem dX13_keeps_54 : decode cX13_keeps 54 = .ok (.aload_n 0, 1) := by decide +kernel
theorem dX13_keeps_55 : decode cX13_keeps 55 = .ok (.getfield 17, 3) := by decide +kernel
theorem dX13_keeps_58 : decode cX13_keeps 58 = .ok (.sipush 201, 3) := by decide +kernel
theorem dX13_keeps_61 : decode cX13_keeps 61 = .ok (.iload_n 1, 1) := by decide +kernel
theorem dX13_keeps_62 : decode cX13_keeps 62 = .ok (.imul, 1) := by decide +kernel
theorem dX13_keeps_63 : decode cX13_keeps 63 = .ok (.iload_n 2, 1) := by decide +kernel
theorem dX13_keeps_64 : decode cX13_keeps 64 = .ok (.iadd, 1) := by decide +kernel
theorem dX13_keeps_65 : decode cX13_keeps 65 = .ok (.aload_n 0, 1) := by decide +kernel
theorem dX13_keeps_66 : decode cX13_keeps 66 = .ok (.getfield 23, 3) := by decide +kernel
theorem dX13_keeps_69 : decode cX13_keeps 69 = .ok (.iload_n 2, 1) := by decide +kernel
theorem dX13_keeps_70 : decode cX13_keeps 70 = .ok (.iaload, 1) := by decide +kernel
theorem dX13_keeps_71 : decode cX13_keeps 71 = .ok (.iastore, 1) := by decide +kernel
theorem dX13_keeps_72 : decode cX13_keeps 72 = .ok (.iinc 2 1, 3) := by decide +kernel
theorem dX13_keeps_75 : decode cX13_keeps 75 = .ok (.goto (-28), 3) := by decide +kernel
theorem dX13_keeps_78 : decode cX13_keeps 78 = .ok (.aload_n 0, 1) := by decide +kernel
theorem dX13_keeps_79 : decode cX13_keeps 79 = .ok (.dup, 1) := by decide +kernel
theorem dX13_keeps_80 : decode cX13_keeps 80 = .ok (.getfield 45, 3) := by decide +kernel
theorem dX13_keeps_83 : decode cX13_keeps 83 = .ok (.iconst 1, 1) := by decide +kernel
theorem dX13_keeps_84 : decode cX13_keeps 84 = .ok (.iadd, 1) := by decide +kernel
theorem dX13_keeps_85 : decode cX13_keeps 85 = .ok (.putfield 45, 3) := by decide +kernel
theorem dX13_keeps_88 : decode cX13_keeps 88 = .ok (.return_, 1) := by decide +kernel
theorem dX13_remembers_0 : decode cX13_remembers 0 = .ok (.aload_n 0, 1) := by decide +kernel
theorem dX13_remembers_1 : decode cX13_remembers 1 = .ok (.invokevirtual 51, 3) := by decide +kernel
theorem dX13_remembers_4 : decode cX13_remembers 4 = .ok (.aload_n 0, 1) := by decide +kernel
theorem dX13_remembers_5 : decode cX13_remembers 5 = .ok (.invokevirtual 54, 3) := by decide +kernel
theorem dX13_remembers_8 : decode cX13_remembers 8 = .ok (.return_, 1) := by decide +kernel
theorem dX13_isMaterial_0 : decode cX13_isMaterial 0 = .ok (.iload_n 0, 1) := by decide +kernel
theorem dX13_isMaterial_1 : decode cX13_isMaterial 1 = .ok (.bipush 97, 2) := by decide +kernel
theorem dX13_isMaterial_3 : decode cX13_isMaterial 3 = .ok (.bipush 102, 2) := by decide +kernel
theorem dX13_isMaterial_5 : decode cX13_isMaterial 5 = .ok (.invokestatic 57, 3) := by decide +kernel
theorem dX13_isMaterial_8 : decode cX13_isMaterial 8 = .ok (.ireturn, 1) := by decide +kernel
theorem dX13_spoolAt_0 : decode cX13_spoolAt 0 = .ok (.aload_n 0, 1) := by decide +kernel
theorem dX13_spoolAt_1 : decode cX13_spoolAt 1 = .ok (.getfield 13, 3) := by decide +kernel
theorem dX13_spoolAt_4 : decode cX13_spoolAt 4 = .ok (.bipush 33, 2) := by decide +kernel
theorem dX13_spoolAt_6 : decode cX13_spoolAt 6 = .ok (.iconst 4, 1) := by decide +kernel
theorem dX13_spoolAt_7 : decode cX13_spoolAt 7 = .ok (.iload_n 1, 1) := by decide +kernel
theorem dX13_spoolAt_8 : decode cX13_spoolAt 8 = .ok (.imul, 1) := by decide +kernel
theorem dX13_spoolAt_9 : decode cX13_spoolAt 9 = .ok (.iadd, 1) := by decide +kernel
theorem dX13_spoolAt_10 : decode cX13_spoolAt 10 = .ok (.iload_n 2, 1) := by decide +kernel
theorem dX13_spoolAt_11 : decode cX13_spoolAt 11 = .ok (.iadd, 1) := by decide +kernel
theorem dX13_spoolAt_12 : decode cX13_spoolAt 12 = .ok (.iaload, 1) := by decide +kernel
theorem dX13_spoolAt_13 : decode cX13_spoolAt 13 = .ok (.ireturn, 1) := by decide +kernel
theorem dX13_orderOf_0 : decode cX13_orderOf 0 = .ok (.aload_n 0, 1) := by decide +kernel
theorem dX13_orderOf_1 : decode cX13_orderOf 1 = .ok (.getfield 13, 3) := by decide +kernel
theorem dX13_orderOf_4 : decode cX13_orderOf 4 = .ok (.bipush 73, 2) := by decide +kernel
theorem dX13_orderOf_6 : decode cX13_orderOf 6 = .ok (.iconst 4, 1) := by decide +kernel
theorem dX13_orderOf_7 : decode cX13_orderOf 7 = .ok (.iload_n 1, 1) := by decide +kernel
theorem dX13_orderOf_8 : decode cX13_orderOf 8 = .ok (.imul, 1) := by decide +kernel
theorem dX13_orderOf_9 : decode cX13_orderOf 9 = .ok (.iadd, 1) := by decide +kernel
theorem dX13_orderOf_10 : decode cX13_orderOf 10 = .ok (.iload_n 2, 1) := by decide +kernel
theorem dX13_orderOf_11 : decode cX13_orderOf 11 = .ok (.iadd, 1) := by decide +kernel
theorem dX13_orderOf_12 : decode cX13_orderOf 12 = .ok (.iaload, 1) := by decide +kernel
theorem dX13_orderOf_13 : decode cX13_orderOf 13 = .ok (.ireturn, 1) := by decide +kernel
theorem dX13_scrapAt_0 : decode cX13_scrapAt 0 = .ok (.aload_n 0, 1) := by decide +kernel
theorem dX13_scrapAt_1 : decode cX13_scrapAt 1 = .ok (.getfield 13, 3) := by decide +kernel
theorem dX13_scrapAt_4 : decode cX13_scrapAt 4 = .ok (.bipush 121, 2) := by decide +kernel
theorem dX13_scrapAt_6 : decode cX13_scrapAt 6 = .ok (.iconst 2, 1) := by decide +kernel
theorem dX13_scrapAt_7 : decode cX13_scrapAt 7 = .ok (.iload_n 1, 1) := by decide +kernel
theorem dX13_scrapAt_8 : decode cX13_scrapAt 8 = .ok (.imul, 1) := by decide +kernel
theorem dX13_scrapAt_9 : decode cX13_scrapAt 9 = .ok (.iadd, 1) := by decide +kernel
theorem dX13_scrapAt_10 : decode cX13_scrapAt 10 = .ok (.iload_n 2, 1) := by decide +kernel
theorem dX13_scrapAt_11 : decode cX13_scrapAt 11 = .ok (.iadd, 1) := by decide +kernel
theorem dX13_scrapAt_12 : decode cX13_scrapAt 12 = .ok (.iaload, 1) := by decide +kernel
theorem dX13_scrapAt_13 : decode cX13_scrapAt 13 = .ok (.ireturn, 1) := by decide +kernel
theorem dX13_spoolPlace_0 : decode cX13_spoolPlace 0 = .ok (.iconst 0, 1) := by decide +kernel
theorem dX13_spoolPlace_1 : decode cX13_spoolPlace 1 = .ok (.istore_n 2, 1) := by decide +kernel
theorem dX13_spoolPlace_2 : decode cX13_spoolPlace 2 = .ok (.iload_n 2, 1) := by decide +kernel
theorem dX13_spoolPlace_3 : decode cX13_spoolPlace 3 = .ok (.aload_n 0, 1) := by decide +kernel
theorem dX13_spoolPlace_4 : decode cX13_spoolPlace 4 = .ok (.getfield 13, 3) := by decide +kernel
theorem dX13_spoolPlace_7 : decode cX13_spoolPlace 7 = .ok (.iconst 0, 1) := by decide +kernel
theorem dX13_spoolPlace_8 : decode cX13_spoolPlace 8 = .ok (.iaload, 1) := by decide +kernel
theorem dX13_spoolPlace_9 : decode cX13_spoolPlace 9 = .ok (.if_icmp .ge 21, 3) := by decide +kernel
theorem dX13_spoolPlace_12 : decode cX13_spoolPlace 12 = .ok (.aload_n 0, 1) := by decide +kernel
theorem dX13_spoolPlace_13 : decode cX13_spoolPlace 13 = .ok (.iload_n 2, 1) := by decide +kernel
theorem dX13_spoolPlace_14 : decode cX13_spoolPlace 14 = .ok (.iconst 0, 1) := by decide +kernel
theorem dX13_spoolPlace_15 : decode cX13_spoolPlace 15 = .ok (.invokevirtual 61, 3) := by decide +kernel
theorem dX13_spoolPlace_18 : decode cX13_spoolPlace 18 = .ok (.iload_n 1, 1) := by decide +kernel
theorem dX13_spoolPlace_19 : decode cX13_spoolPlace 19 = .ok (.if_icmp .ne 5, 3) := by decide +kernel
theorem dX13_spoolPlace_22 : decode cX13_spoolPlace 22 = .ok (.iload_n 2, 1) := by decide +kernel
theorem dX13_spoolPlace_23 : decode cX13_spoolPlace 23 = .ok (.ireturn, 1) := by decide +kernel
theorem dX13_spoolPlace_24 : decode cX13_spoolPlace 24 = .ok (.iinc 2 1, 3) := by decide +kernel
theorem dX13_spoolPlace_27 : decode cX13_spoolPlace 27 = .ok (.goto (-25), 3) := by decide +kernel
theorem dX13_spoolPlace_30 : decode cX13_spoolPlace 30 = .ok (.iconst (-1), 1) := by decide +kernel
theorem dX13_spoolPlace_31 : decode cX13_spoolPlace 31 = .ok (.ireturn, 1) := by decide +kernel
theorem dX13_orderPlace_0 : decode cX13_orderPlace 0 = .ok (.iconst 0, 1) := by decide +kernel
theorem dX13_orderPlace_1 : decode cX13_orderPlace 1 = .ok (.istore_n 2, 1) := by decide +kernel
theorem dX13_orderPlace_2 : decode cX13_orderPlace 2 = .ok (.iload_n 2, 1) := by decide +kernel
theorem dX13_orderPlace_3 : decode cX13_orderPlace 3 = .ok (.aload_n 0, 1) := by decide +kernel
theorem dX13_orderPlace_4 : decode cX13_orderPlace 4 = .ok (.getfield 13, 3) := by decide +kernel
theorem dX13_orderPlace_7 : decode cX13_orderPlace 7 = .ok (.iconst 2, 1) := by decide +kernel
theorem dX13_orderPlace_8 : decode cX13_orderPlace 8 = .ok (.iaload, 1) := by decide +kernel
theorem dX13_orderPlace_9 : decode cX13_orderPlace 9 = .ok (.if_icmp .ge 21, 3) := by decide +kernel
theorem dX13_orderPlace_12 : decode cX13_orderPlace 12 = .ok (.aload_n 0, 1) := by decide +kernel
theorem dX13_orderPlace_13 : decode cX13_orderPlace 13 = .ok (.iload_n 2, 1) := by decide +kernel
theorem dX13_orderPlace_14 : decode cX13_orderPlace 14 = .ok (.iconst 0, 1) := by decide +kernel
theorem dX13_orderPlace_15 : decode cX13_orderPlace 15 = .ok (.invokevirtual 65, 3) := by decide +kernel
theorem dX13_orderPlace_18 : decode cX13_orderPlace 18 = .ok (.iload_n 1, 1) := by decide +kernel
theorem dX13_orderPlace_19 : decode cX13_orderPlace 19 = .ok (.if_icmp .ne 5, 3) := by decide +kernel
theorem dX13_orderPlace_22 : decode cX13_orderPlace 22 = .ok (.iload_n 2, 1) := by decide +kernel
theorem dX13_orderPlace_23 : decode cX13_orderPlace 23 = .ok (.ireturn, 1) := by decide +kernel
theorem dX13_orderPlace_24 : decode cX13_orderPlace 24 = .ok (.iinc 2 1, 3) := by decide +kernel
theorem dX13_orderPlace_27 : decode cX13_orderPlace 27 = .ok (.goto (-25), 3) := by decide +kernel
theorem dX13_orderPlace_30 : decode cX13_orderPlace 30 = .ok (.iconst (-1), 1) := by decide +kernel
theorem dX13_orderPlace_31 : decode cX13_orderPlace 31 = .ok (.ireturn, 1) := by decide +kernel
theorem dX13_closes_0 : decode cX13_closes 0 = .ok (.iload_n 1, 1) := by decide +kernel
theorem dX13_closes_1 : decode cX13_closes 1 = .ok (.istore 4, 2) := by decide +kernel
theorem dX13_closes_3 : decode cX13_closes 3 = .ok (.iload 4, 2) := by decide +kernel
theorem dX13_closes_5 : decode cX13_closes 5 = .ok (.iload_n 3, 1) := by decide +kernel
theorem dX13_closes_6 : decode cX13_closes 6 = .ok (.iload_n 2, 1) := by decide +kernel
theorem dX13_closes_7 : decode cX13_closes 7 = .ok (.isub, 1) := by decide +kernel
theorem dX13_closes_8 : decode cX13_closes 8 = .ok (.if_icmp .ge 25, 3) := by decide +kernel
theorem dX13_closes_11 : decode cX13_closes 11 = .ok (.aload_n 0, 1) := by decide +kernel
theorem dX13_closes_12 : decode cX13_closes 12 = .ok (.getfield 13, 3) := by decide +kernel
theorem dX13_closes_15 : decode cX13_closes 15 = .ok (.iload 4, 2) := by decide +kernel
theorem dX13_closes_17 : decode cX13_closes 17 = .ok (.aload_n 0, 1) := by decide +kernel
theorem dX13_closes_18 : decode cX13_closes 18 = .ok (.getfield 13, 3) := by decide +kernel
theorem dX13_closes_21 : decode cX13_closes 21 = .ok (.iload 4, 2) := by decide +kernel
theorem dX13_closes_23 : decode cX13_closes 23 = .ok (.iload_n 2, 1) := by decide +kernel
theorem dX13_closes_24 : decode cX13_closes 24 = .ok (.iadd, 1) := by decide +kernel
theorem dX13_closes_25 : decode cX13_closes 25 = .ok (.iaload, 1) := by decide +kernel
theorem dX13_closes_26 : decode cX13_closes 26 = .ok (.iastore, 1) := by decide +kernel
theorem dX13_closes_27 : decode cX13_closes 27 = .ok (.iinc 4 1, 3) := by decide +kernel
theorem dX13_closes_30 : decode cX13_closes 30 = .ok (.goto (-27), 3) := by decide +kernel
theorem dX13_closes_33 : decode cX13_closes 33 = .ok (.iload_n 3, 1) := by decide +kernel
theorem dX13_closes_34 : decode cX13_closes 34 = .ok (.iload_n 2, 1) := by decide +kernel
theorem dX13_closes_35 : decode cX13_closes 35 = .ok (.isub, 1) := by decide +kernel
theorem dX13_closes_36 : decode cX13_closes 36 = .ok (.istore 4, 2) := by decide +kernel
theorem dX13_closes_38 : decode cX13_closes 38 = .ok (.iload 4, 2) := by decide +kernel
theorem dX13_closes_40 : decode cX13_closes 40 = .ok (.iload_n 3, 1) := by decide +kernel
theorem dX13_closes_41 : decode cX13_closes 41 = .ok (.if_icmp .ge 17, 3) := by decide +kernel
theorem dX13_closes_44 : decode cX13_closes 44 = .ok (.aload_n 0, 1) := by decide +kernel
theorem dX13_closes_45 : decode cX13_closes 45 = .ok (.getfield 13, 3) := by decide +kernel
theorem dX13_closes_48 : decode cX13_closes 48 = .ok (.iload 4, 2) := by decide +kernel
theorem dX13_closes_50 : decode cX13_closes 50 = .ok (.iconst 0, 1) := by decide +kernel
theorem dX13_closes_51 : decode cX13_closes 51 = .ok (.iastore, 1) := by decide +kernel
theorem dX13_closes_52 : decode cX13_closes 52 = .ok (.iinc 4 1, 3) := by decide +kernel
theorem dX13_closes_55 : decode cX13_closes 55 = .ok (.goto (-17), 3) := by decide +kernel
theorem dX13_closes_58 : decode cX13_closes 58 = .ok (.return_, 1) := by decide +kernel
theorem dX13_removesSpool_0 : decode cX13_removesSpool 0 = .ok (.aload_n 0, 1) := by decide +kernel
theorem dX13_removesSpool_1 : decode cX13_removesSpool 1 = .ok (.bipush 33, 2) := by decide +kernel
theorem dX13_removesSpool_3 : decode cX13_removesSpool 3 = .ok (.iconst 4, 1) := by decide +kernel
theorem dX13_removesSpool_4 : decode cX13_removesSpool 4 = .ok (.iload_n 1, 1) := by decide +kernel
theorem dX13_removesSpool_5 : decode cX13_removesSpool 5 = .ok (.imul, 1) := by decide +kernel
theorem dX13_removesSpool_6 : decode cX13_removesSpool 6 = .ok (.iadd, 1) := by decide +kernel
theorem dX13_removesSpool_7 : decode cX13_removesSpool 7 = .ok (.iconst 4, 1) := by decide +kernel
theorem dX13_removesSpool_8 : decode cX13_removesSpool 8 = .ok (.bipush 33, 2) := by decide +kernel
theorem dX13_removesSpool_10 : decode cX13_removesSpool 10 = .ok (.iconst 4, 1) := by decide +kernel
theorem dX13_removesSpool_11 : decode cX13_removesSpool 11 = .ok (.aload_n 0, 1) := by decide +kernel
theorem dX13_removesSpool_12 : decode cX13_removesSpool 12 = .ok (.getfield 13, 3) := by decide +kernel
theorem dX13_removesSpool_15 : decode cX13_removesSpool 15 = .ok (.iconst 0, 1) := by decide +kernel
theorem dX13_removesSpool_16 : decode cX13_removesSpool 16 = .ok (.iaload, 1) := by decide +kernel
theorem dX13_removesSpool_17 : decode cX13_removesSpool 17 = .ok (.imul, 1) := by decide +kernel
theorem dX13_removesSpool_18 : decode cX13_removesSpool 18 = .ok (.iadd, 1) := by decide +kernel
theorem dX13_removesSpool_19 : decode cX13_removesSpool 19 = .ok (.invokevirtual 68, 3) := by decide +kernel
theorem dX13_removesSpool_22 : decode cX13_removesSpool 22 = .ok (.aload_n 0, 1) := by decide +kernel
theorem dX13_removesSpool_23 : decode cX13_removesSpool 23 = .ok (.getfield 13, 3) := by decide +kernel
theorem dX13_removesSpool_26 : decode cX13_removesSpool 26 = .ok (.iconst 0, 1) := by decide +kernel
theorem dX13_removesSpool_27 : decode cX13_removesSpool 27 = .ok (.dup2, 1) := by decide +kernel
theorem dX13_removesSpool_28 : decode cX13_removesSpool 28 = .ok (.iaload, 1) := by decide +kernel
theorem dX13_removesSpool_29 : decode cX13_removesSpool 29 = .ok (.iconst 1, 1) := by decide +kernel
theorem dX13_removesSpool_30 : decode cX13_removesSpool 30 = .ok (.isub, 1) := by decide +kernel
theorem dX13_removesSpool_31 : decode cX13_removesSpool 31 = .ok (.iastore, 1) := by decide +kernel
theorem dX13_removesSpool_32 : decode cX13_removesSpool 32 = .ok (.return_, 1) := by decide +kernel
theorem dX13_removesOrder_0 : decode cX13_removesOrder 0 = .ok (.aload_n 0, 1) := by decide +kernel
theorem dX13_removesOrder_1 : decode cX13_removesOrder 1 = .ok (.bipush 73, 2) := by decide +kernel
theorem dX13_removesOrder_3 : decode cX13_removesOrder 3 = .ok (.iconst 4, 1) := by decide +kernel
theorem dX13_removesOrder_4 : decode cX13_removesOrder 4 = .ok (.iload_n 1, 1) := by decide +kernel
theorem dX13_removesOrder_5 : decode cX13_removesOrder 5 = .ok (.imul, 1) := by decide +kernel
theorem dX13_removesOrder_6 : decode cX13_removesOrder 6 = .ok (.iadd, 1) := by decide +kernel
theorem dX13_removesOrder_7 : decode cX13_removesOrder 7 = .ok (.iconst 4, 1) := by decide +kernel
theorem dX13_removesOrder_8 : decode cX13_removesOrder 8 = .ok (.bipush 73, 2) := by decide +kernel
theorem dX13_removesOrder_10 : decode cX13_removesOrder 10 = .ok (.iconst 4, 1) := by decide +kernel
theorem dX13_removesOrder_11 : decode cX13_removesOrder 11 = .ok (.aload_n 0, 1) := by decide +kernel
theorem dX13_removesOrder_12 : decode cX13_removesOrder 12 = .ok (.getfield 13, 3) := by decide +kernel
theorem dX13_removesOrder_15 : decode cX13_removesOrder 15 = .ok (.iconst 2, 1) := by decide +kernel
theorem dX13_removesOrder_16 : decode cX13_removesOrder 16 = .ok (.iaload, 1) := by decide +kernel
theorem dX13_removesOrder_17 : decode cX13_removesOrder 17 = .ok (.imul, 1) := by decide +kernel
theorem dX13_removesOrder_18 : decode cX13_removesOrder 18 = .ok (.iadd, 1) := by decide +kernel
theorem dX13_removesOrder_19 : decode cX13_removesOrder 19 = .ok (.invokevirtual 68, 3) := by decide +kernel
theorem dX13_removesOrder_22 : decode cX13_removesOrder 22 = .ok (.aload_n 0, 1) := by decide +kernel
theorem dX13_removesOrder_23 : decode cX13_removesOrder 23 = .ok (.getfield 13, 3) := by decide +kernel
theorem dX13_removesOrder_26 : decode cX13_removesOrder 26 = .ok (.iconst 2, 1) := by decide +kernel
theorem dX13_removesOrder_27 : decode cX13_removesOrder 27 = .ok (.dup2, 1) := by decide +kernel
theorem dX13_removesOrder_28 : decode cX13_removesOrder 28 = .ok (.iaload, 1) := by decide +kernel
theorem dX13_removesOrder_29 : decode cX13_removesOrder 29 = .ok (.iconst 1, 1) := by decide +kernel
theorem dX13_removesOrder_30 : decode cX13_removesOrder 30 = .ok (.isub, 1) := by decide +kernel
theorem dX13_removesOrder_31 : decode cX13_removesOrder 31 = .ok (.iastore, 1) := by decide +kernel
theorem dX13_removesOrder_32 : decode cX13_removesOrder 32 = .ok (.return_, 1) := by decide +kernel
theorem dX13_removesScrap_0 : decode cX13_removesScrap 0 = .ok (.aload_n 0, 1) := by decide +kernel
theorem dX13_removesScrap_1 : decode cX13_removesScrap 1 = .ok (.bipush 121, 2) := by decide +kernel
theorem dX13_removesScrap_3 : decode cX13_removesScrap 3 = .ok (.iconst 2, 1) := by decide +kernel
theorem dX13_removesScrap_4 : decode cX13_removesScrap 4 = .ok (.iload_n 1, 1) := by decide +kernel
theorem dX13_removesScrap_5 : decode cX13_removesScrap 5 = .ok (.imul, 1) := by decide +kernel
theorem dX13_removesScrap_6 : decode cX13_removesScrap 6 = .ok (.iadd, 1) := by decide +kernel
theorem dX13_removesScrap_7 : decode cX13_removesScrap 7 = .ok (.iconst 2, 1) := by decide +kernel
theorem dX13_removesScrap_8 : decode cX13_removesScrap 8 = .ok (.bipush 121, 2) := by decide +kernel
theorem dX13_removesScrap_10 : decode cX13_removesScrap 10 = .ok (.iconst 2, 1) := by decide +kernel
theorem dX13_removesScrap_11 : decode cX13_removesScrap 11 = .ok (.aload_n 0, 1) := by decide +kernel
theorem dX13_removesScrap_12 : decode cX13_removesScrap 12 = .ok (.getfield 13, 3) := by decide +kernel
theorem dX13_removesScrap_15 : decode cX13_removesScrap 15 = .ok (.iconst 4, 1) := by decide +kernel
theorem dX13_removesScrap_16 : decode cX13_removesScrap 16 = .ok (.iaload, 1) := by decide +kernel
theorem dX13_removesScrap_17 : decode cX13_removesScrap 17 = .ok (.imul, 1) := by decide +kernel
theorem dX13_removesScrap_18 : decode cX13_removesScrap 18 = .ok (.iadd, 1) := by decide +kernel
theorem dX13_removesScrap_19 : decode cX13_removesScrap 19 = .ok (.invokevirtual 68, 3) := by decide +kernel
theorem dX13_removesScrap_22 : decode cX13_removesScrap 22 = .ok (.aload_n 0, 1) := by decide +kernel
theorem dX13_removesScrap_23 : decode cX13_removesScrap 23 = .ok (.getfield 13, 3) := by decide +kernel
theorem dX13_removesScrap_26 : decode cX13_removesScrap 26 = .ok (.iconst 4, 1) := by decide +kernel
theorem dX13_removesScrap_27 : decode cX13_removesScrap 27 = .ok (.dup2, 1) := by decide +kernel
theorem dX13_removesScrap_28 : decode cX13_removesScrap 28 = .ok (.iaload, 1) := by decide +kernel
theorem dX13_removesScrap_29 : decode cX13_removesScrap 29 = .ok (.iconst 1, 1) := by decide +kernel
theorem dX13_removesScrap_30 : decode cX13_removesScrap 30 = .ok (.isub, 1) := by decide +kernel
theorem dX13_removesScrap_31 : decode cX13_removesScrap 31 = .ok (.iastore, 1) := by decide +kernel
theorem dX13_removesScrap_32 : decode cX13_removesScrap 32 = .ok (.return_, 1) := by decide +kernel
theorem dX13_leavesScrap_0 : decode cX13_leavesScrap 0 = .ok (.aload_n 0, 1) := by decide +kernel
theorem dX13_leavesScrap_1 : decode cX13_leavesScrap 1 = .ok (.getfield 13, 3) := by decide +kernel
theorem dX13_leavesScrap_4 : decode cX13_leavesScrap 4 = .ok (.iconst 4, 1) := by decide +kernel
theorem dX13_leavesScrap_5 : decode cX13_leavesScrap 5 = .ok (.iaload, 1) := by decide +kernel
theorem dX13_leavesScrap_6 : decode cX13_leavesScrap 6 = .ok (.bipush 40, 2) := by decide +kernel
theorem dX13_leavesScrap_8 : decode cX13_leavesScrap 8 = .ok (.if_icmp .ne 17, 3) := by decide +kernel
theorem dX13_leavesScrap_11 : decode cX13_leavesScrap 11 = .ok (.aload_n 0, 1) := by decide +kernel
theorem dX13_leavesScrap_12 : decode cX13_leavesScrap 12 = .ok (.getfield 13, 3) := by decide +kernel
theorem dX13_leavesScrap_15 : decode cX13_leavesScrap 15 = .ok (.bipush 27, 2) := by decide +kernel
theorem dX13_leavesScrap_17 : decode cX13_leavesScrap 17 = .ok (.iload_n 1, 1) := by decide +kernel
theorem dX13_leavesScrap_18 : decode cX13_leavesScrap 18 = .ok (.iadd, 1) := by decide +kernel
theorem dX13_leavesScrap_19 : decode cX13_leavesScrap 19 = .ok (.dup2, 1) := by decide +kernel
theorem dX13_leavesScrap_20 : decode cX13_leavesScrap 20 = .ok (.iaload, 1) := by decide +kernel
theorem dX13_leavesScrap_21 : decode cX13_leavesScrap 21 = .ok (.iload_n 2, 1) := by decide +kernel
theorem dX13_leavesScrap_22 : decode cX13_leavesScrap 22 = .ok (.iadd, 1) := by decide +kernel
theorem dX13_leavesScrap_23 : decode cX13_leavesScrap 23 = .ok (.iastore, 1) := by decide +kernel
theorem dX13_leavesScrap_24 : decode cX13_leavesScrap 24 = .ok (.return_, 1) := by decide +kernel
theorem dX13_leavesScrap_25 : decode cX13_leavesScrap 25 = .ok (.aload_n 0, 1) := by decide +kernel
theorem dX13_leavesScrap_26 : decode cX13_leavesScrap 26 = .ok (.getfield 13, 3) := by decide +kernel
theorem dX13_leavesScrap_29 : decode cX13_leavesScrap 29 = .ok (.bipush 121, 2) := by decide +kernel
theorem dX13_leavesScrap_31 : decode cX13_leavesScrap 31 = .ok (.iconst 2, 1) := by decide +kernel
theorem dX13_leavesScrap_32 : decode cX13_leavesScrap 32 = .ok (.aload_n 0, 1) := by decide +kernel
theorem dX13_leavesScrap_33 : decode cX13_leavesScrap 33 = .ok (.getfield 13, 3) := by decide +kernel
theorem dX13_leavesScrap_36 : decode cX13_leavesScrap 36 = .ok (.iconst 4, 1) := by decide +kernel
theorem dX13_leavesScrap_37 : decode cX13_leavesScrap 37 = .ok (.iaload, 1) := by decide +kernel
theorem dX13_leavesScrap_38 : decode cX13_leavesScrap 38 = .ok (.imul, 1) := by decide +kernel
theorem dX13_leavesScrap_39 : decode cX13_leavesScrap 39 = .ok (.iadd, 1) := by decide +kernel
theorem dX13_leavesScrap_40 : decode cX13_leavesScrap 40 = .ok (.iload_n 1, 1) := by decide +kernel
theorem dX13_leavesScrap_41 : decode cX13_leavesScrap 41 = .ok (.iastore, 1) := by decide +kernel
theorem dX13_leavesScrap_42 : decode cX13_leavesScrap 42 = .ok (.aload_n 0, 1) := by decide +kernel
theorem dX13_leavesScrap_43 : decode cX13_leavesScrap 43 = .ok (.getfield 13, 3) := by decide +kernel
theorem dX13_leavesScrap_46 : decode cX13_leavesScrap 46 = .ok (.bipush 121, 2) := by decide +kernel
theorem dX13_leavesScrap_48 : decode cX13_leavesScrap 48 = .ok (.iconst 2, 1) := by decide +kernel
theorem dX13_leavesScrap_49 : decode cX13_leavesScrap 49 = .ok (.aload_n 0, 1) := by decide +kernel
theorem dX13_leavesScrap_50 : decode cX13_leavesScrap 50 = .ok (.getfield 13, 3) := by decide +kernel
theorem dX13_leavesScrap_53 : decode cX13_leavesScrap 53 = .ok (.iconst 4, 1) := by decide +kernel
theorem dX13_leavesScrap_54 : decode cX13_leavesScrap 54 = .ok (.iaload, 1) := by decide +kernel
theorem dX13_leavesScrap_55 : decode cX13_leavesScrap 55 = .ok (.imul, 1) := by decide +kernel
theorem dX13_leavesScrap_56 : decode cX13_leavesScrap 56 = .ok (.iadd, 1) := by decide +kernel
theorem dX13_leavesScrap_57 : decode cX13_leavesScrap 57 = .ok (.iconst 1, 1) := by decide +kernel
theorem dX13_leavesScrap_58 : decode cX13_leavesScrap 58 = .ok (.iadd, 1) := by decide +kernel
theorem dX13_leavesScrap_59 : decode cX13_leavesScrap 59 = .ok (.iload_n 2, 1) := by decide +kernel
theorem dX13_leavesScrap_60 : decode cX13_leavesScrap 60 = .ok (.iastore, 1) := by decide +kernel
theorem dX13_leavesScrap_61 : decode cX13_leavesScrap 61 = .ok (.aload_n 0, 1) := by decide +kernel
theorem dX13_leavesScrap_62 : decode cX13_leavesScrap 62 = .ok (.getfield 13, 3) := by decide +kernel
theorem dX13_leavesScrap_65 : decode cX13_leavesScrap 65 = .ok (.iconst 4, 1) := by decide +kernel
theorem dX13_leavesScrap_66 : decode cX13_leavesScrap 66 = .ok (.dup2, 1) := by decide +kernel
theorem dX13_leavesScrap_67 : decode cX13_leavesScrap 67 = .ok (.iaload, 1) := by decide +kernel
theorem dX13_leavesScrap_68 : decode cX13_leavesScrap 68 = .ok (.iconst 1, 1) := by decide +kernel
theorem dX13_leavesScrap_69 : decode cX13_leavesScrap 69 = .ok (.iadd, 1) := by decide +kernel
theorem dX13_leavesScrap_70 : decode cX13_leavesScrap 70 = .ok (.iastore, 1) := by decide +kernel
theorem dX13_leavesScrap_71 : decode cX13_leavesScrap 71 = .ok (.return_, 1) := by decide +kernel
theorem dX13_notSpool_0 : decode cX13_notSpool 0 = .ok (.iload_n 1, 1) := by decide +kernel
theorem dX13_notSpool_1 : decode cX13_notSpool 1 = .ok (.invokestatic 72, 3) := by decide +kernel
theorem dX13_notSpool_4 : decode cX13_notSpool 4 = .ok (.ifCond .eq 15, 3) := by decide +kernel
theorem dX13_notSpool_7 : decode cX13_notSpool 7 = .ok (.iload_n 2, 1) := by decide +kernel
theorem dX13_notSpool_8 : decode cX13_notSpool 8 = .ok (.bipush 10, 2) := by decide +kernel
theorem dX13_notSpool_10 : decode cX13_notSpool 10 = .ok (.sipush 999, 3) := by decide +kernel
theorem dX13_notSpool_13 : decode cX13_notSpool 13 = .ok (.invokestatic 57, 3) := by decide +kernel
theorem dX13_notSpool_16 : decode cX13_notSpool 16 = .ok (.ifCond .ne 5, 3) := by decide +kernel
theorem dX13_notSpool_19 : decode cX13_notSpool 19 = .ok (.iconst 1, 1) := by decide +kernel
theorem dX13_notSpool_20 : decode cX13_notSpool 20 = .ok (.ireturn, 1) := by decide +kernel
theorem dX13_notSpool_21 : decode cX13_notSpool 21 = .ok (.aload_n 0, 1) := by decide +kernel
theorem dX13_notSpool_22 : decode cX13_notSpool 22 = .ok (.getfield 13, 3) := by decide +kernel
theorem dX13_notSpool_25 : decode cX13_notSpool 25 = .ok (.iconst 0, 1) := by decide +kernel
theorem dX13_notSpool_26 : decode cX13_notSpool 26 = .ok (.iaload, 1) := by decide +kernel
theorem dX13_notSpool_27 : decode cX13_notSpool 27 = .ok (.bipush 10, 2) := by decide +kernel
theorem dX13_notSpool_29 : decode cX13_notSpool 29 = .ok (.if_icmp .ne 7, 3) := by decide +kernel
theorem dX13_notSpool_32 : decode cX13_notSpool 32 = .ok (.iconst 2, 1) := by decide +kernel
theorem dX13_notSpool_33 : decode cX13_notSpool 33 = .ok (.goto 4, 3) := by decide +kernel
theorem dX13_notSpool_36 : decode cX13_notSpool 36 = .ok (.iconst 0, 1) := by decide +kernel
theorem dX13_notSpool_37 : decode cX13_notSpool 37 = .ok (.ireturn, 1) := by decide +kernel
theorem dX13_addsSpool_0 : decode cX13_addsSpool 0 = .ok (.bipush 33, 2) := by decide +kernel
theorem dX13_addsSpool_2 : decode cX13_addsSpool 2 = .ok (.iconst 4, 1) := by decide +kernel
theorem dX13_addsSpool_3 : decode cX13_addsSpool 3 = .ok (.aload_n 0, 1) := by decide +kernel
theorem dX13_addsSpool_4 : decode cX13_addsSpool 4 = .ok (.getfield 13, 3) := by decide +kernel
theorem dX13_addsSpool_7 : decode cX13_addsSpool 7 = .ok (.iconst 0, 1) := by decide +kernel
theorem dX13_addsSpool_8 : decode cX13_addsSpool 8 = .ok (.iaload, 1) := by decide +kernel
theorem dX13_addsSpool_9 : decode cX13_addsSpool 9 = .ok (.imul, 1) := by decide +kernel
theorem dX13_addsSpool_10 : decode cX13_addsSpool 10 = .ok (.iadd, 1) := by decide +kernel
theorem dX13_addsSpool_11 : decode cX13_addsSpool 11 = .ok (.istore_n 3, 1) := by decide +kernel
theorem dX13_addsSpool_12 : decode cX13_addsSpool 12 = .ok (.aload_n 0, 1) := by decide +kernel
theorem dX13_addsSpool_13 : decode cX13_addsSpool 13 = .ok (.getfield 13, 3) := by decide +kernel
theorem dX13_addsSpool_16 : decode cX13_addsSpool 16 = .ok (.iload_n 3, 1) := by decide +kernel
theorem dX13_addsSpool_17 : decode cX13_addsSpool 17 = .ok (.iconst 0, 1) := by decide +kernel
theorem dX13_addsSpool_18 : decode cX13_addsSpool 18 = .ok (.iadd, 1) := by decide +kernel
theorem dX13_addsSpool_19 : decode cX13_addsSpool 19 = .ok (.aload_n 0, 1) := by decide +kernel
theorem dX13_addsSpool_20 : decode cX13_addsSpool 20 = .ok (.getfield 13, 3) := by decide +kernel
theorem dX13_addsSpool_23 : decode cX13_addsSpool 23 = .ok (.iconst 1, 1) := by decide +kernel
theorem dX13_addsSpool_24 : decode cX13_addsSpool 24 = .ok (.iaload, 1) := by decide +kernel
theorem dX13_addsSpool_25 : decode cX13_addsSpool 25 = .ok (.iastore, 1) := by decide +kernel
theorem dX13_addsSpool_26 : decode cX13_addsSpool 26 = .ok (.aload_n 0, 1) := by decide +kernel
theorem dX13_addsSpool_27 : decode cX13_addsSpool 27 = .ok (.getfield 13, 3) := by decide +kernel
theorem dX13_addsSpool_30 : decode cX13_addsSpool 30 = .ok (.iload_n 3, 1) := by decide +kernel
theorem dX13_addsSpool_31 : decode cX13_addsSpool 31 = .ok (.iconst 1, 1) := by decide +kernel
theorem dX13_addsSpool_32 : decode cX13_addsSpool 32 = .ok (.iadd, 1) := by decide +kernel
theorem dX13_addsSpool_33 : decode cX13_addsSpool 33 = .ok (.iload_n 1, 1) := by decide +kernel
theorem dX13_addsSpool_34 : decode cX13_addsSpool 34 = .ok (.bipush 97, 2) := by decide +kernel
theorem dX13_addsSpool_36 : decode cX13_addsSpool 36 = .ok (.isub, 1) := by decide +kernel
theorem dX13_addsSpool_37 : decode cX13_addsSpool 37 = .ok (.iastore, 1) := by decide +kernel
theorem dX13_addsSpool_38 : decode cX13_addsSpool 38 = .ok (.aload_n 0, 1) := by decide +kernel
theorem dX13_addsSpool_39 : decode cX13_addsSpool 39 = .ok (.getfield 13, 3) := by decide +kernel
theorem dX13_addsSpool_42 : decode cX13_addsSpool 42 = .ok (.iload_n 3, 1) := by decide +kernel
theorem dX13_addsSpool_43 : decode cX13_addsSpool 43 = .ok (.iconst 2, 1) := by decide +kernel
theorem dX13_addsSpool_44 : decode cX13_addsSpool 44 = .ok (.iadd, 1) := by decide +kernel
theorem dX13_addsSpool_45 : decode cX13_addsSpool 45 = .ok (.iload_n 2, 1) := by decide +kernel
theorem dX13_addsSpool_46 : decode cX13_addsSpool 46 = .ok (.iastore, 1) := by decide +kernel
theorem dX13_addsSpool_47 : decode cX13_addsSpool 47 = .ok (.aload_n 0, 1) := by decide +kernel
theorem dX13_addsSpool_48 : decode cX13_addsSpool 48 = .ok (.getfield 13, 3) := by decide +kernel
theorem dX13_addsSpool_51 : decode cX13_addsSpool 51 = .ok (.iload_n 3, 1) := by decide +kernel
theorem dX13_addsSpool_52 : decode cX13_addsSpool 52 = .ok (.iconst 3, 1) := by decide +kernel
theorem dX13_addsSpool_53 : decode cX13_addsSpool 53 = .ok (.iadd, 1) := by decide +kernel
theorem dX13_addsSpool_54 : decode cX13_addsSpool 54 = .ok (.iconst 0, 1) := by decide +kernel
theorem dX13_addsSpool_55 : decode cX13_addsSpool 55 = .ok (.iastore, 1) := by decide +kernel
theorem dX13_addsSpool_56 : decode cX13_addsSpool 56 = .ok (.aload_n 0, 1) := by decide +kernel
theorem dX13_addsSpool_57 : decode cX13_addsSpool 57 = .ok (.getfield 13, 3) := by decide +kernel
theorem dX13_addsSpool_60 : decode cX13_addsSpool 60 = .ok (.bipush 9, 2) := by decide +kernel
theorem dX13_addsSpool_62 : decode cX13_addsSpool 62 = .ok (.iload_n 1, 1) := by decide +kernel
theorem dX13_addsSpool_63 : decode cX13_addsSpool 63 = .ok (.iadd, 1) := by decide +kernel
theorem dX13_addsSpool_64 : decode cX13_addsSpool 64 = .ok (.bipush 97, 2) := by decide +kernel
theorem dX13_addsSpool_66 : decode cX13_addsSpool 66 = .ok (.isub, 1) := by decide +kernel
theorem dX13_addsSpool_67 : decode cX13_addsSpool 67 = .ok (.dup2, 1) := by decide +kernel
theorem dX13_addsSpool_68 : decode cX13_addsSpool 68 = .ok (.iaload, 1) := by decide +kernel
theorem dX13_addsSpool_69 : decode cX13_addsSpool 69 = .ok (.iload_n 2, 1) := by decide +kernel
theorem dX13_addsSpool_70 : decode cX13_addsSpool 70 = .ok (.iadd, 1) := by decide +kernel
theorem dX13_addsSpool_71 : decode cX13_addsSpool 71 = .ok (.iastore, 1) := by decide +kernel
theorem dX13_addsSpool_72 : decode cX13_addsSpool 72 = .ok (.aload_n 0, 1) := by decide +kernel
theorem dX13_addsSpool_73 : decode cX13_addsSpool 73 = .ok (.getfield 13, 3) := by decide +kernel
theorem dX13_addsSpool_76 : decode cX13_addsSpool 76 = .ok (.iconst 0, 1) := by decide +kernel
theorem dX13_addsSpool_77 : decode cX13_addsSpool 77 = .ok (.dup2, 1) := by decide +kernel
theorem dX13_addsSpool_78 : decode cX13_addsSpool 78 = .ok (.iaload, 1) := by decide +kernel
theorem dX13_addsSpool_79 : decode cX13_addsSpool 79 = .ok (.iconst 1, 1) := by decide +kernel
theorem dX13_addsSpool_80 : decode cX13_addsSpool 80 = .ok (.iadd, 1) := by decide +kernel
theorem dX13_addsSpool_81 : decode cX13_addsSpool 81 = .ok (.iastore, 1) := by decide +kernel
theorem dX13_addsSpool_82 : decode cX13_addsSpool 82 = .ok (.aload_n 0, 1) := by decide +kernel
theorem dX13_addsSpool_83 : decode cX13_addsSpool 83 = .ok (.getfield 13, 3) := by decide +kernel
theorem dX13_addsSpool_86 : decode cX13_addsSpool 86 = .ok (.iconst 1, 1) := by decide +kernel
theorem dX13_addsSpool_87 : decode cX13_addsSpool 87 = .ok (.dup2, 1) := by decide +kernel
theorem dX13_addsSpool_88 : decode cX13_addsSpool 88 = .ok (.iaload, 1) := by decide +kernel
theorem dX13_addsSpool_89 : decode cX13_addsSpool 89 = .ok (.iconst 1, 1) := by decide +kernel
theorem dX13_addsSpool_90 : decode cX13_addsSpool 90 = .ok (.iadd, 1) := by decide +kernel
theorem dX13_addsSpool_91 : decode cX13_addsSpool 91 = .ok (.iastore, 1) := by decide +kernel
theorem dX13_addsSpool_92 : decode cX13_addsSpool 92 = .ok (.aload_n 0, 1) := by decide +kernel
theorem dX13_addsSpool_93 : decode cX13_addsSpool 93 = .ok (.getfield 13, 3) := by decide +kernel
theorem dX13_addsSpool_96 : decode cX13_addsSpool 96 = .ok (.iconst 1, 1) := by decide +kernel
theorem dX13_addsSpool_97 : decode cX13_addsSpool 97 = .ok (.iaload, 1) := by decide +kernel
theorem dX13_addsSpool_98 : decode cX13_addsSpool 98 = .ok (.iconst 1, 1) := by decide +kernel
theorem dX13_addsSpool_99 : decode cX13_addsSpool 99 = .ok (.isub, 1) := by decide +kernel
theorem dX13_addsSpool_100 : decode cX13_addsSpool 100 = .ok (.ireturn, 1) := by decide +kernel
theorem dX13_addSpool_0 : decode cX13_addSpool 0 = .ok (.aload_n 0, 1) := by decide +kernel
theorem dX13_addSpool_1 : decode cX13_addSpool 1 = .ok (.iconst 0, 1) := by decide +kernel
theorem dX13_addSpool_2 : decode cX13_addSpool 2 = .ok (.putfield 1, 3) := by decide +kernel
theorem dX13_addSpool_5 : decode cX13_addSpool 5 = .ok (.aload_n 0, 1) := by decide +kernel
theorem dX13_addSpool_6 : decode cX13_addSpool 6 = .ok (.iload_n 1, 1) := by decide +kernel
theorem dX13_addSpool_7 : decode cX13_addSpool 7 = .ok (.iload_n 2, 1) := by decide +kernel
theorem dX13_addSpool_8 : decode cX13_addSpool 8 = .ok (.invokevirtual 76, 3) := by decide +kernel
theorem dX13_addSpool_11 : decode cX13_addSpool 11 = .ok (.istore_n 3, 1) := by decide +kernel
theorem dX13_addSpool_12 : decode cX13_addSpool 12 = .ok (.iload_n 3, 1) := by decide +kernel
theorem dX13_addSpool_13 : decode cX13_addSpool 13 = .ok (.ifCond .eq 9, 3) := by decide +kernel
theorem dX13_addSpool_16 : decode cX13_addSpool 16 = .ok (.aload_n 0, 1) := by decide +kernel
theorem dX13_addSpool_17 : decode cX13_addSpool 17 = .ok (.iload_n 3, 1) := by decide +kernel
theorem dX13_addSpool_18 : decode cX13_addSpool 18 = .ok (.invokevirtual 79, 3) := by decide +kernel
theorem dX13_addSpool_21 : decode cX13_addSpool 21 = .ok (.ireturn, 1) := by decide +kernel
theorem dX13_addSpool_22 : decode cX13_addSpool 22 = .ok (.aload_n 0, 1) := by decide +kernel
theorem dX13_addSpool_23 : decode cX13_addSpool 23 = .ok (.invokevirtual 83, 3) := by decide +kernel
theorem dX13_addSpool_26 : decode cX13_addSpool 26 = .ok (.aload_n 0, 1) := by decide +kernel
theorem dX13_addSpool_27 : decode cX13_addSpool 27 = .ok (.iload_n 1, 1) := by decide +kernel
theorem dX13_addSpool_28 : decode cX13_addSpool 28 = .ok (.iload_n 2, 1) := by decide +kernel
theorem dX13_addSpool_29 : decode cX13_addSpool 29 = .ok (.invokevirtual 86, 3) := by decide +kernel
theorem dX13_addSpool_32 : decode cX13_addSpool 32 = .ok (.ireturn, 1) := by decide +kernel
theorem dX13_notRetire_0 : decode cX13_notRetire 0 = .ok (.aload_n 0, 1) := by decide +kernel
theorem dX13_notRetire_1 : decode cX13_notRetire 1 = .ok (.iload_n 1, 1) := by decide +kernel
theorem dX13_notRetire_2 : decode cX13_notRetire 2 = .ok (.invokevirtual 89, 3) := by decide +kernel
theorem dX13_notRetire_5 : decode cX13_notRetire 5 = .ok (.ifCond .ge 7, 3) := by decide +kernel
theorem dX13_notRetire_8 : decode cX13_notRetire 8 = .ok (.iconst 1, 1) := by decide +kernel
theorem dX13_notRetire_9 : decode cX13_notRetire 9 = .ok (.goto 4, 3) := by decide +kernel
theorem dX13_notRetire_12 : decode cX13_notRetire 12 = .ok (.iconst 0, 1) := by decide +kernel
theorem dX13_notRetire_13 : decode cX13_notRetire 13 = .ok (.ireturn, 1) := by decide +kernel
theorem dX13_retires_0 : decode cX13_retires 0 = .ok (.aload_n 0, 1) := by decide +kernel
theorem dX13_retires_1 : decode cX13_retires 1 = .ok (.iload_n 1, 1) := by decide +kernel
theorem dX13_retires_2 : decode cX13_retires 2 = .ok (.invokevirtual 89, 3) := by decide +kernel
theorem dX13_retires_5 : decode cX13_retires 5 = .ok (.istore_n 2, 1) := by decide +kernel
theorem dX13_retires_6 : decode cX13_retires 6 = .ok (.aload_n 0, 1) := by decide +kernel
theorem dX13_retires_7 : decode cX13_retires 7 = .ok (.iload_n 2, 1) := by decide +kernel
theorem dX13_retires_8 : decode cX13_retires 8 = .ok (.iconst 2, 1) := by decide +kernel
theorem dX13_retires_9 : decode cX13_retires 9 = .ok (.invokevirtual 61, 3) := by decide +kernel
theorem dX13_retires_12 : decode cX13_retires 12 = .ok (.istore_n 3, 1) := by decide +kernel
theorem dX13_retires_13 : decode cX13_retires 13 = .ok (.aload_n 0, 1) := by decide +kernel
theorem dX13_retires_14 : decode cX13_retires 14 = .ok (.aload_n 0, 1) := by decide +kernel
theorem dX13_retires_15 : decode cX13_retires 15 = .ok (.iload_n 2, 1) := by decide +kernel
theorem dX13_retires_16 : decode cX13_retires 16 = .ok (.iconst 1, 1) := by decide +kernel
theorem dX13_retires_17 : decode cX13_retires 17 = .ok (.invokevirtual 61, 3) := by decide +kernel
theorem dX13_retires_20 : decode cX13_retires 20 = .ok (.iload_n 3, 1) := by decide +kernel
theorem dX13_retires_21 : decode cX13_retires 21 = .ok (.invokevirtual 92, 3) := by decide +kernel
theorem dX13_retires_24 : decode cX13_retires 24 = .ok (.aload_n 0, 1) := by decide +kernel
theorem dX13_retires_25 : decode cX13_retires 25 = .ok (.iload_n 2, 1) := by decide +kernel
theorem dX13_retires_26 : decode cX13_retires 26 = .ok (.invokevirtual 96, 3) := by decide +kernel
theorem dX13_retires_29 : decode cX13_retires 29 = .ok (.iload_n 3, 1) := by decide +kernel
theorem dX13_retires_30 : decode cX13_retires 30 = .ok (.ireturn, 1) := by decide +kernel
theorem dX13_retire_0 : decode cX13_retire 0 = .ok (.aload_n 0, 1) := by decide +kernel
theorem dX13_retire_1 : decode cX13_retire 1 = .ok (.iconst 0, 1) := by decide +kernel
theorem dX13_retire_2 : decode cX13_retire 2 = .ok (.putfield 1, 3) := by decide +kernel
theorem dX13_retire_5 : decode cX13_retire 5 = .ok (.aload_n 0, 1) := by decide +kernel
theorem dX13_retire_6 : decode cX13_retire 6 = .ok (.iload_n 1, 1) := by decide +kernel
theorem dX13_retire_7 : decode cX13_retire 7 = .ok (.invokevirtual 100, 3) := by decide +kernel
theorem dX13_retire_10 : decode cX13_retire 10 = .ok (.ifCond .eq 9, 3) := by decide +kernel
theorem dX13_retire_13 : decode cX13_retire 13 = .ok (.aload_n 0, 1) := by decide +kernel
theorem dX13_retire_14 : decode cX13_retire 14 = .ok (.iconst 1, 1) := by decide +kernel
theorem dX13_retire_15 : decode cX13_retire 15 = .ok (.invokevirtual 79, 3) := by decide +kernel
theorem dX13_retire_18 : decode cX13_retire 18 = .ok (.ireturn, 1) := by decide +kernel
theorem dX13_retire_19 : decode cX13_retire 19 = .ok (.aload_n 0, 1) := by decide +kernel
theorem dX13_retire_20 : decode cX13_retire 20 = .ok (.invokevirtual 83, 3) := by decide +kernel
theorem dX13_retire_23 : decode cX13_retire 23 = .ok (.aload_n 0, 1) := by decide +kernel
theorem dX13_retire_24 : decode cX13_retire 24 = .ok (.iload_n 1, 1) := by decide +kernel
theorem dX13_retire_25 : decode cX13_retire 25 = .ok (.invokevirtual 103, 3) := by decide +kernel
theorem dX13_retire_28 : decode cX13_retire 28 = .ok (.ireturn, 1) := by decide +kernel
theorem dX13_clears_0 : decode cX13_clears 0 = .ok (.iconst 0, 1) := by decide +kernel
theorem dX13_clears_1 : decode cX13_clears 1 = .ok (.istore_n 2, 1) := by decide +kernel
theorem dX13_clears_2 : decode cX13_clears 2 = .ok (.iconst 0, 1) := by decide +kernel
theorem dX13_clears_3 : decode cX13_clears 3 = .ok (.istore_n 3, 1) := by decide +kernel
theorem dX13_clears_4 : decode cX13_clears 4 = .ok (.iload_n 3, 1) := by decide +kernel
theorem dX13_clears_5 : decode cX13_clears 5 = .ok (.aload_n 0, 1) := by decide +kernel
theorem dX13_clears_6 : decode cX13_clears 6 = .ok (.getfield 13, 3) := by decide +kernel
theorem dX13_clears_9 : decode cX13_clears 9 = .ok (.iconst 4, 1) := by decide +kernel
theorem dX13_clears_10 : decode cX13_clears 10 = .ok (.iaload, 1) := by decide +kernel
theorem dX13_clears_11 : decode cX13_clears 11 = .ok (.if_icmp .ge 36, 3) := by decide +kernel
theorem dX13_clears_14 : decode cX13_clears 14 = .ok (.aload_n 0, 1) := by decide +kernel
theorem dX13_clears_15 : decode cX13_clears 15 = .ok (.iload_n 3, 1) := by decide +kernel
theorem dX13_clears_16 : decode cX13_clears 16 = .ok (.iconst 0, 1) := by decide +kernel
theorem dX13_clears_17 : decode cX13_clears 17 = .ok (.invokevirtual 106, 3) := by decide +kernel
theorem dX13_clears_20 : decode cX13_clears 20 = .ok (.iload_n 1, 1) := by decide +kernel
theorem dX13_clears_21 : decode cX13_clears 21 = .ok (.if_icmp .ne 20, 3) := by decide +kernel
theorem dX13_clears_24 : decode cX13_clears 24 = .ok (.iload_n 2, 1) := by decide +kernel
theorem dX13_clears_25 : decode cX13_clears 25 = .ok (.aload_n 0, 1) := by decide +kernel
theorem dX13_clears_26 : decode cX13_clears 26 = .ok (.iload_n 3, 1) := by decide +kernel
theorem dX13_clears_27 : decode cX13_clears 27 = .ok (.iconst 1, 1) := by decide +kernel
theorem dX13_clears_28 : decode cX13_clears 28 = .ok (.invokevirtual 106, 3) := by decide +kernel
theorem dX13_clears_31 : decode cX13_clears 31 = .ok (.iadd, 1) := by decide +kernel
theorem dX13_clears_32 : decode cX13_clears 32 = .ok (.istore_n 2, 1) := by decide +kernel
theorem dX13_clears_33 : decode cX13_clears 33 = .ok (.aload_n 0, 1) := by decide +kernel
theorem dX13_clears_34 : decode cX13_clears 34 = .ok (.iload_n 3, 1) := by decide +kernel
theorem dX13_clears_35 : decode cX13_clears 35 = .ok (.invokevirtual 109, 3) := by decide +kernel
theorem dX13_clears_38 : decode cX13_clears 38 = .ok (.goto (-34), 3) := by decide +kernel
theorem dX13_clears_41 : decode cX13_clears 41 = .ok (.iinc 3 1, 3) := by decide +kernel
theorem dX13_clears_44 : decode cX13_clears 44 = .ok (.goto (-40), 3) := by decide +kernel
theorem dX13_clears_47 : decode cX13_clears 47 = .ok (.aload_n 0, 1) := by decide +kernel
theorem dX13_clears_48 : decode cX13_clears 48 = .ok (.getfield 13, 3) := by decide +kernel
theorem dX13_clears_51 : decode cX13_clears 51 = .ok (.bipush 27, 2) := by decide +kernel
theorem dX13_clears_53 : decode cX13_clears 53 = .ok (.iload_n 1, 1) := by decide +kernel
theorem dX13_clears_54 : decode cX13_clears 54 = .ok (.iadd, 1) := by decide +kernel
theorem dX13_clears_55 : decode cX13_clears 55 = .ok (.dup2, 1) := by decide +kernel
theorem dX13_clears_56 : decode cX13_clears 56 = .ok (.iaload, 1) := by decide +kernel
theorem dX13_clears_57 : decode cX13_clears 57 = .ok (.iload_n 2, 1) := by decide +kernel
theorem dX13_clears_58 : decode cX13_clears 58 = .ok (.iadd, 1) := by decide +kernel
theorem dX13_clears_59 : decode cX13_clears 59 = .ok (.iastore, 1) := by decide +kernel
theorem dX13_clears_60 : decode cX13_clears 60 = .ok (.iload_n 2, 1) := by decide +kernel
theorem dX13_clears_61 : decode cX13_clears 61 = .ok (.ireturn, 1) := by decide +kernel
theorem dX13_notClear_0 : decode cX13_notClear 0 = .ok (.iload_n 0, 1) := by decide +kernel
theorem dX13_notClear_1 : decode cX13_notClear 1 = .ok (.invokestatic 72, 3) := by decide +kernel
theorem dX13_notClear_4 : decode cX13_notClear 4 = .ok (.ifCond .eq 7, 3) := by decide +kernel
theorem dX13_notClear_7 : decode cX13_notClear 7 = .ok (.iconst 0, 1) := by decide +kernel
theorem dX13_notClear_8 : decode cX13_notClear 8 = .ok (.goto 4, 3) := by decide +kernel
theorem dX13_notClear_11 : decode cX13_notClear 11 = .ok (.iconst 1, 1) := by decide +kernel
theorem dX13_notClear_12 : decode cX13_notClear 12 = .ok (.ireturn, 1) := by decide +kernel
theorem dX13_throwScraps_0 : decode cX13_throwScraps 0 = .ok (.aload_n 0, 1) := by decide +kernel
theorem dX13_throwScraps_1 : decode cX13_throwScraps 1 = .ok (.iconst 0, 1) := by decide +kernel
theorem dX13_throwScraps_2 : decode cX13_throwScraps 2 = .ok (.putfield 1, 3) := by decide +kernel
theorem dX13_throwScraps_5 : decode cX13_throwScraps 5 = .ok (.iload_n 1, 1) := by decide +kernel
theorem dX13_throwScraps_6 : decode cX13_throwScraps 6 = .ok (.invokestatic 112, 3) := by decide +kernel
theorem dX13_throwScraps_9 : decode cX13_throwScraps 9 = .ok (.ifCond .eq 9, 3) := by decide +kernel
theorem dX13_throwScraps_12 : decode cX13_throwScraps 12 = .ok (.aload_n 0, 1) := by decide +kernel
theorem dX13_throwScraps_13 : decode cX13_throwScraps 13 = .ok (.iconst 1, 1) := by decide +kernel
theorem dX13_throwScraps_14 : decode cX13_throwScraps 14 = .ok (.invokevirtual 79, 3) := by decide +kernel
theorem dX13_throwScraps_17 : decode cX13_throwScraps 17 = .ok (.ireturn, 1) := by decide +kernel
theorem dX13_throwScraps_18 : decode cX13_throwScraps 18 = .ok (.aload_n 0, 1) := by decide +kernel
theorem dX13_throwScraps_19 : decode cX13_throwScraps 19 = .ok (.invokevirtual 83, 3) := by decide +kernel
theorem dX13_throwScraps_22 : decode cX13_throwScraps 22 = .ok (.aload_n 0, 1) := by decide +kernel
theorem dX13_throwScraps_23 : decode cX13_throwScraps 23 = .ok (.iload_n 1, 1) := by decide +kernel
theorem dX13_throwScraps_24 : decode cX13_throwScraps 24 = .ok (.bipush 97, 2) := by decide +kernel
theorem dX13_throwScraps_26 : decode cX13_throwScraps 26 = .ok (.isub, 1) := by decide +kernel
theorem dX13_throwScraps_27 : decode cX13_throwScraps 27 = .ok (.invokevirtual 115, 3) := by decide +kernel
theorem dX13_throwScraps_30 : decode cX13_throwScraps 30 = .ok (.ireturn, 1) := by decide +kernel
theorem dX13_notOrder_0 : decode cX13_notOrder 0 = .ok (.iload_n 1, 1) := by decide +kernel
theorem dX13_notOrder_1 : decode cX13_notOrder 1 = .ok (.invokestatic 72, 3) := by decide +kernel
theorem dX13_notOrder_4 : decode cX13_notOrder 4 = .ok (.ifCond .eq 24, 3) := by decide +kernel
theorem dX13_notOrder_7 : decode cX13_notOrder 7 = .ok (.iload_n 2, 1) := by decide +kernel
theorem dX13_notOrder_8 : decode cX13_notOrder 8 = .ok (.iconst 1, 1) := by decide +kernel
theorem dX13_notOrder_9 : decode cX13_notOrder 9 = .ok (.sipush 200, 3) := by decide +kernel
theorem dX13_notOrder_12 : decode cX13_notOrder 12 = .ok (.invokestatic 57, 3) := by decide +kernel
theorem dX13_notOrder_15 : decode cX13_notOrder 15 = .ok (.ifCond .eq 13, 3) := by decide +kernel
theorem dX13_notOrder_18 : decode cX13_notOrder 18 = .ok (.iload_n 3, 1) := by decide +kernel
theorem dX13_notOrder_19 : decode cX13_notOrder 19 = .ok (.iconst 1, 1) := by decide +kernel
theorem dX13_notOrder_20 : decode cX13_notOrder 20 = .ok (.bipush 99, 2) := by decide +kernel
theorem dX13_notOrder_22 : decode cX13_notOrder 22 = .ok (.invokestatic 57, 3) := by decide +kernel
theorem dX13_notOrder_25 : decode cX13_notOrder 25 = .ok (.ifCond .ne 5, 3) := by decide +kernel
theorem dX13_notOrder_28 : decode cX13_notOrder 28 = .ok (.iconst 1, 1) := by decide +kernel
theorem dX13_notOrder_29 : decode cX13_notOrder 29 = .ok (.ireturn, 1) := by decide +kernel
theorem dX13_notOrder_30 : decode cX13_notOrder 30 = .ok (.aload_n 0, 1) := by decide +kernel
theorem dX13_notOrder_31 : decode cX13_notOrder 31 = .ok (.getfield 13, 3) := by decide +kernel
theorem dX13_notOrder_34 : decode cX13_notOrder 34 = .ok (.iconst 2, 1) := by decide +kernel
theorem dX13_notOrder_35 : decode cX13_notOrder 35 = .ok (.iaload, 1) := by decide +kernel
theorem dX13_notOrder_36 : decode cX13_notOrder 36 = .ok (.bipush 12, 2) := by decide +kernel
theorem dX13_notOrder_38 : decode cX13_notOrder 38 = .ok (.if_icmp .ne 7, 3) := by decide +kernel
theorem dX13_notOrder_41 : decode cX13_notOrder 41 = .ok (.iconst 2, 1) := by decide +kernel
theorem dX13_notOrder_42 : decode cX13_notOrder 42 = .ok (.goto 4, 3) := by decide +kernel
theorem dX13_notOrder_45 : decode cX13_notOrder 45 = .ok (.iconst 0, 1) := by decide +kernel
theorem dX13_notOrder_46 : decode cX13_notOrder 46 = .ok (.ireturn, 1) := by decide +kernel
theorem dX13_addsOrder_0 : decode cX13_addsOrder 0 = .ok (.aload_n 0, 1) := by decide +kernel
theorem dX13_addsOrder_1 : decode cX13_addsOrder 1 = .ok (.getfield 13, 3) := by decide +kernel
theorem dX13_addsOrder_4 : decode cX13_addsOrder 4 = .ok (.iconst 2, 1) := by decide +kernel
theorem dX13_addsOrder_5 : decode cX13_addsOrder 5 = .ok (.iaload, 1) := by decide +kernel
theorem dX13_addsOrder_6 : decode cX13_addsOrder 6 = .ok (.istore 4, 2) := by decide +kernel
theorem dX13_addsOrder_8 : decode cX13_addsOrder 8 = .ok (.iload 4, 2) := by decide +kernel
theorem dX13_addsOrder_10 : decode cX13_addsOrder 10 = .ok (.ifCond .le 62, 3) := by decide +kernel
theorem dX13_addsOrder_13 : decode cX13_addsOrder 13 = .ok (.aload_n 0, 1) := by decide +kernel
theorem dX13_addsOrder_14 : decode cX13_addsOrder 14 = .ok (.iload 4, 2) := by decide +kernel
theorem dX13_addsOrder_16 : decode cX13_addsOrder 16 = .ok (.iconst 1, 1) := by decide +kernel
theorem dX13_addsOrder_17 : decode cX13_addsOrder 17 = .ok (.isub, 1) := by decide +kernel
theorem dX13_addsOrder_18 : decode cX13_addsOrder 18 = .ok (.iconst 3, 1) := by decide +kernel
theorem dX13_addsOrder_19 : decode cX13_addsOrder 19 = .ok (.invokevirtual 65, 3) := by decide +kernel
theorem dX13_addsOrder_22 : decode cX13_addsOrder 22 = .ok (.iload_n 3, 1) := by decide +kernel
theorem dX13_addsOrder_23 : decode cX13_addsOrder 23 = .ok (.if_icmp .le 49, 3) := by decide +kernel
theorem dX13_addsOrder_26 : decode cX13_addsOrder 26 = .ok (.iconst 0, 1) := by decide +kernel
theorem dX13_addsOrder_27 : decode cX13_addsOrder 27 = .ok (.istore 5, 2) := by decide +kernel
theorem dX13_addsOrder_29 : decode cX13_addsOrder 29 = .ok (.iload 5, 2) := by decide +kernel
theorem dX13_addsOrder_31 : decode cX13_addsOrder 31 = .ok (.iconst 4, 1) := by decide +kernel
theorem dX13_addsOrder_32 : decode cX13_addsOrder 32 = .ok (.if_icmp .ge 34, 3) := by decide +kernel
theorem dX13_addsOrder_35 : decode cX13_addsOrder 35 = .ok (.aload_n 0, 1) := by decide +kernel
theorem dX13_addsOrder_36 : decode cX13_addsOrder 36 = .ok (.getfield 13, 3) := by decide +kernel
theorem dX13_addsOrder_39 : decode cX13_addsOrder 39 = .ok (.bipush 73, 2) := by decide +kernel
theorem dX13_addsOrder_41 : decode cX13_addsOrder 41 = .ok (.iconst 4, 1) := by decide +kernel
theorem dX13_addsOrder_42 : decode cX13_addsOrder 42 = .ok (.iload 4, 2) := by decide +kernel
theorem dX13_addsOrder_44 : decode cX13_addsOrder 44 = .ok (.imul, 1) := by decide +kernel
theorem dX13_addsOrder_45 : decode cX13_addsOrder 45 = .ok (.iadd, 1) := by decide +kernel
theorem dX13_addsOrder_46 : decode cX13_addsOrder 46 = .ok (.iload 5, 2) := by decide +kernel
theorem dX13_addsOrder_48 : decode cX13_addsOrder 48 = .ok (.iadd, 1) := by decide +kernel
theorem dX13_addsOrder_49 : decode cX13_addsOrder 49 = .ok (.aload_n 0, 1) := by decide +kernel
theorem dX13_addsOrder_50 : decode cX13_addsOrder 50 = .ok (.iload 4, 2) := by decide +kernel
theorem dX13_addsOrder_52 : decode cX13_addsOrder 52 = .ok (.iconst 1, 1) := by decide +kernel
theorem dX13_addsOrder_53 : decode cX13_addsOrder 53 = .ok (.isub, 1) := by decide +kernel
theorem dX13_addsOrder_54 : decode cX13_addsOrder 54 = .ok (.iload 5, 2) := by decide +kernel
theorem dX13_addsOrder_56 : decode cX13_addsOrder 56 = .ok (.invokevirtual 65, 3) := by decide +kernel
theorem dX13_addsOrder_59 : decode cX13_addsOrder 59 = .ok (.iastore, 1) := by decide +kernel
theorem dX13_addsOrder_60 : decode cX13_addsOrder 60 = .ok (.iinc 5 1, 3) := by decide +kernel
theorem dX13_addsOrder_63 : decode cX13_addsOrder 63 = .ok (.goto (-34), 3) := by decide +kernel
theorem dX13_addsOrder_66 : decode cX13_addsOrder 66 = .ok (.iinc 4 (-1), 3) := by decide +kernel
theorem dX13_addsOrder_69 : decode cX13_addsOrder 69 = .ok (.goto (-61), 3) := by decide +kernel
theorem dX13_addsOrder_72 : decode cX13_addsOrder 72 = .ok (.bipush 73, 2) := by decide +kernel
theorem dX13_addsOrder_74 : decode cX13_addsOrder 74 = .ok (.iconst 4, 1) := by decide +kernel
theorem dX13_addsOrder_75 : decode cX13_addsOrder 75 = .ok (.iload 4, 2) := by decide +kernel
theorem dX13_addsOrder_77 : decode cX13_addsOrder 77 = .ok (.imul, 1) := by decide +kernel
theorem dX13_addsOrder_78 : decode cX13_addsOrder 78 = .ok (.iadd, 1) := by decide +kernel
theorem dX13_addsOrder_79 : decode cX13_addsOrder 79 = .ok (.istore 5, 2) := by decide +kernel
theorem dX13_addsOrder_81 : decode cX13_addsOrder 81 = .ok (.aload_n 0, 1) := by decide +kernel
theorem dX13_addsOrder_82 : decode cX13_addsOrder 82 = .ok (.getfield 13, 3) := by decide +kernel
theorem dX13_addsOrder_85 : decode cX13_addsOrder 85 = .ok (.iload 5, 2) := by decide +kernel
theorem dX13_addsOrder_87 : decode cX13_addsOrder 87 = .ok (.iconst 0, 1) := by decide +kernel
theorem dX13_addsOrder_88 : decode cX13_addsOrder 88 = .ok (.iadd, 1) := by decide +kernel
theorem dX13_addsOrder_89 : decode cX13_addsOrder 89 = .ok (.aload_n 0, 1) := by decide +kernel
theorem dX13_addsOrder_90 : decode cX13_addsOrder 90 = .ok (.getfield 13, 3) := by decide +kernel
theorem dX13_addsOrder_93 : decode cX13_addsOrder 93 = .ok (.iconst 3, 1) := by decide +kernel
theorem dX13_addsOrder_94 : decode cX13_addsOrder 94 = .ok (.iaload, 1) := by decide +kernel
theorem dX13_addsOrder_95 : decode cX13_addsOrder 95 = .ok (.iastore, 1) := by decide +kernel
theorem dX13_addsOrder_96 : decode cX13_addsOrder 96 = .ok (.aload_n 0, 1) := by decide +kernel
theorem dX13_addsOrder_97 : decode cX13_addsOrder 97 = .ok (.getfield 13, 3) := by decide +kernel
theorem dX13_addsOrder_100 : decode cX13_addsOrder 100 = .ok (.iload 5, 2) := by decide +kernel
theorem dX13_addsOrder_102 : decode cX13_addsOrder 102 = .ok (.iconst 1, 1) := by decide +kernel
theorem dX13_addsOrder_103 : decode cX13_addsOrder 103 = .ok (.iadd, 1) := by decide +kernel
theorem dX13_addsOrder_104 : decode cX13_addsOrder 104 = .ok (.iload_n 1, 1) := by decide +kernel
theorem dX13_addsOrder_105 : decode cX13_addsOrder 105 = .ok (.bipush 97, 2) := by decide +kernel
theorem dX13_addsOrder_107 : decode cX13_addsOrder 107 = .ok (.isub, 1) := by decide +kernel
theorem dX13_addsOrder_108 : decode cX13_addsOrder 108 = .ok (.iastore, 1) := by decide +kernel
theorem dX13_addsOrder_109 : decode cX13_addsOrder 109 = .ok (.aload_n 0, 1) := by decide +kernel
theorem dX13_addsOrder_110 : decode cX13_addsOrder 110 = .ok (.getfield 13, 3) := by decide +kernel
theorem dX13_addsOrder_113 : decode cX13_addsOrder 113 = .ok (.iload 5, 2) := by decide +kernel
theorem dX13_addsOrder_115 : decode cX13_addsOrder 115 = .ok (.iconst 2, 1) := by decide +kernel
theorem dX13_addsOrder_116 : decode cX13_addsOrder 116 = .ok (.iadd, 1) := by decide +kernel
theorem dX13_addsOrder_117 : decode cX13_addsOrder 117 = .ok (.iload_n 2, 1) := by decide +kernel
theorem dX13_addsOrder_118 : decode cX13_addsOrder 118 = .ok (.iastore, 1) := by decide +kernel
theorem dX13_addsOrder_119 : decode cX13_addsOrder 119 = .ok (.aload_n 0, 1) := by decide +kernel
theorem dX13_addsOrder_120 : decode cX13_addsOrder 120 = .ok (.getfield 13, 3) := by decide +kernel
theorem dX13_addsOrder_123 : decode cX13_addsOrder 123 = .ok (.iload 5, 2) := by decide +kernel
theorem dX13_addsOrder_125 : decode cX13_addsOrder 125 = .ok (.iconst 3, 1) := by decide +kernel
theorem dX13_addsOrder_126 : decode cX13_addsOrder 126 = .ok (.iadd, 1) := by decide +kernel
theorem dX13_addsOrder_127 : decode cX13_addsOrder 127 = .ok (.iload_n 3, 1) := by decide +kernel
theorem dX13_addsOrder_128 : decode cX13_addsOrder 128 = .ok (.iastore, 1) := by decide +kernel
theorem dX13_addsOrder_129 : decode cX13_addsOrder 129 = .ok (.aload_n 0, 1) := by decide +kernel
theorem dX13_addsOrder_130 : decode cX13_addsOrder 130 = .ok (.getfield 13, 3) := by decide +kernel
theorem dX13_addsOrder_133 : decode cX13_addsOrder 133 = .ok (.iconst 2, 1) := by decide +kernel
theorem dX13_addsOrder_134 : decode cX13_addsOrder 134 = .ok (.dup2, 1) := by decide +kernel
theorem dX13_addsOrder_135 : decode cX13_addsOrder 135 = .ok (.iaload, 1) := by decide +kernel
theorem dX13_addsOrder_136 : decode cX13_addsOrder 136 = .ok (.iconst 1, 1) := by decide +kernel
theorem dX13_addsOrder_137 : decode cX13_addsOrder 137 = .ok (.iadd, 1) := by decide +kernel
theorem dX13_addsOrder_138 : decode cX13_addsOrder 138 = .ok (.iastore, 1) := by decide +kernel
theorem dX13_addsOrder_139 : decode cX13_addsOrder 139 = .ok (.aload_n 0, 1) := by decide +kernel
theorem dX13_addsOrder_140 : decode cX13_addsOrder 140 = .ok (.getfield 13, 3) := by decide +kernel
theorem dX13_addsOrder_143 : decode cX13_addsOrder 143 = .ok (.iconst 3, 1) := by decide +kernel
theorem dX13_addsOrder_144 : decode cX13_addsOrder 144 = .ok (.dup2, 1) := by decide +kernel
theorem dX13_addsOrder_145 : decode cX13_addsOrder 145 = .ok (.iaload, 1) := by decide +kernel
theorem dX13_addsOrder_146 : decode cX13_addsOrder 146 = .ok (.iconst 1, 1) := by decide +kernel
theorem dX13_addsOrder_147 : decode cX13_addsOrder 147 = .ok (.iadd, 1) := by decide +kernel
theorem dX13_addsOrder_148 : decode cX13_addsOrder 148 = .ok (.iastore, 1) := by decide +kernel
theorem dX13_addsOrder_149 : decode cX13_addsOrder 149 = .ok (.aload_n 0, 1) := by decide +kernel
theorem dX13_addsOrder_150 : decode cX13_addsOrder 150 = .ok (.getfield 13, 3) := by decide +kernel
theorem dX13_addsOrder_153 : decode cX13_addsOrder 153 = .ok (.iconst 3, 1) := by decide +kernel
theorem dX13_addsOrder_154 : decode cX13_addsOrder 154 = .ok (.iaload, 1) := by decide +kernel
theorem dX13_addsOrder_155 : decode cX13_addsOrder 155 = .ok (.iconst 1, 1) := by decide +kernel
theorem dX13_addsOrder_156 : decode cX13_addsOrder 156 = .ok (.isub, 1) := by decide +kernel
theorem dX13_addsOrder_157 : decode cX13_addsOrder 157 = .ok (.ireturn, 1) := by decide +kernel
theorem dX13_addOrder_0 : decode cX13_addOrder 0 = .ok (.aload_n 0, 1) := by decide +kernel
theorem dX13_addOrder_1 : decode cX13_addOrder 1 = .ok (.iconst 0, 1) := by decide +kernel
theorem dX13_addOrder_2 : decode cX13_addOrder 2 = .ok (.putfield 1, 3) := by decide +kernel
theorem dX13_addOrder_5 : decode cX13_addOrder 5 = .ok (.aload_n 0, 1) := by decide +kernel
theorem dX13_addOrder_6 : decode cX13_addOrder 6 = .ok (.iload_n 1, 1) := by decide +kernel
theorem dX13_addOrder_7 : decode cX13_addOrder 7 = .ok (.iload_n 2, 1) := by decide +kernel
theorem dX13_addOrder_8 : decode cX13_addOrder 8 = .ok (.iload_n 3, 1) := by decide +kernel
theorem dX13_addOrder_9 : decode cX13_addOrder 9 = .ok (.invokevirtual 118, 3) := by decide +kernel
theorem dX13_addOrder_12 : decode cX13_addOrder 12 = .ok (.istore 4, 2) := by decide +kernel
theorem dX13_addOrder_14 : decode cX13_addOrder 14 = .ok (.iload 4, 2) := by decide +kernel
theorem dX13_addOrder_16 : decode cX13_addOrder 16 = .ok (.ifCond .eq 10, 3) := by decide +kernel
theorem dX13_addOrder_19 : decode cX13_addOrder 19 = .ok (.aload_n 0, 1) := by decide +kernel
theorem dX13_addOrder_20 : decode cX13_addOrder 20 = .ok (.iload 4, 2) := by decide +kernel
theorem dX13_addOrder_22 : decode cX13_addOrder 22 = .ok (.invokevirtual 79, 3) := by decide +kernel
theorem dX13_addOrder_25 : decode cX13_addOrder 25 = .ok (.ireturn, 1) := by decide +kernel
theorem dX13_addOrder_26 : decode cX13_addOrder 26 = .ok (.aload_n 0, 1) := by decide +kernel
theorem dX13_addOrder_27 : decode cX13_addOrder 27 = .ok (.invokevirtual 83, 3) := by decide +kernel
theorem dX13_addOrder_30 : decode cX13_addOrder 30 = .ok (.aload_n 0, 1) := by decide +kernel
theorem dX13_addOrder_31 : decode cX13_addOrder 31 = .ok (.iload_n 1, 1) := by decide +kernel
theorem dX13_addOrder_32 : decode cX13_addOrder 32 = .ok (.iload_n 2, 1) := by decide +kernel
theorem dX13_addOrder_33 : decode cX13_addOrder 33 = .ok (.iload_n 3, 1) := by decide +kernel
theorem dX13_addOrder_34 : decode cX13_addOrder 34 = .ok (.invokevirtual 122, 3) := by decide +kernel
theorem dX13_addOrder_37 : decode cX13_addOrder 37 = .ok (.ireturn, 1) := by decide +kernel
theorem dX13_notCancel_0 : decode cX13_notCancel 0 = .ok (.aload_n 0, 1) := by decide +kernel
theorem dX13_notCancel_1 : decode cX13_notCancel 1 = .ok (.iload_n 1, 1) := by decide +kernel
theorem dX13_notCancel_2 : decode cX13_notCancel 2 = .ok (.invokevirtual 125, 3) := by decide +kernel
theorem dX13_notCancel_5 : decode cX13_notCancel 5 = .ok (.ifCond .ge 7, 3) := by decide +kernel
theorem dX13_notCancel_8 : decode cX13_notCancel 8 = .ok (.iconst 1, 1) := by decide +kernel
theorem dX13_notCancel_9 : decode cX13_notCancel 9 = .ok (.goto 4, 3) := by decide +kernel
theorem dX13_notCancel_12 : decode cX13_notCancel 12 = .ok (.iconst 0, 1) := by decide +kernel
theorem dX13_notCancel_13 : decode cX13_notCancel 13 = .ok (.ireturn, 1) := by decide +kernel
theorem dX13_cancels_0 : decode cX13_cancels 0 = .ok (.aload_n 0, 1) := by decide +kernel
theorem dX13_cancels_1 : decode cX13_cancels 1 = .ok (.iload_n 1, 1) := by decide +kernel
theorem dX13_cancels_2 : decode cX13_cancels 2 = .ok (.invokevirtual 125, 3) := by decide +kernel
theorem dX13_cancels_5 : decode cX13_cancels 5 = .ok (.istore_n 2, 1) := by decide +kernel
theorem dX13_cancels_6 : decode cX13_cancels 6 = .ok (.aload_n 0, 1) := by decide +kernel
theorem dX13_cancels_7 : decode cX13_cancels 7 = .ok (.iload_n 2, 1) := by decide +kernel
theorem dX13_cancels_8 : decode cX13_cancels 8 = .ok (.invokevirtual 128, 3) := by decide +kernel
theorem dX13_cancels_11 : decode cX13_cancels 11 = .ok (.iload_n 2, 1) := by decide +kernel
theorem dX13_cancels_12 : decode cX13_cancels 12 = .ok (.ireturn, 1) := by decide +kernel
theorem dX13_cancel_0 : decode cX13_cancel 0 = .ok (.aload_n 0, 1) := by decide +kernel
theorem dX13_cancel_1 : decode cX13_cancel 1 = .ok (.iconst 0, 1) := by decide +kernel
theorem dX13_cancel_2 : decode cX13_cancel 2 = .ok (.putfield 1, 3) := by decide +kernel
theorem dX13_cancel_5 : decode cX13_cancel 5 = .ok (.aload_n 0, 1) := by decide +kernel
theorem dX13_cancel_6 : decode cX13_cancel 6 = .ok (.iload_n 1, 1) := by decide +kernel
theorem dX13_cancel_7 : decode cX13_cancel 7 = .ok (.invokevirtual 131, 3) := by decide +kernel
theorem dX13_cancel_10 : decode cX13_cancel 10 = .ok (.ifCond .eq 9, 3) := by decide +kernel
theorem dX13_cancel_13 : decode cX13_cancel 13 = .ok (.aload_n 0, 1) := by decide +kernel
theorem dX13_cancel_14 : decode cX13_cancel 14 = .ok (.iconst 1, 1) := by decide +kernel
theorem dX13_cancel_15 : decode cX13_cancel 15 = .ok (.invokevirtual 79, 3) := by decide +kernel
theorem dX13_cancel_18 : decode cX13_cancel 18 = .ok (.ireturn, 1) := by decide +kernel
theorem dX13_cancel_19 : decode cX13_cancel 19 = .ok (.aload_n 0, 1) := by decide +kernel
theorem dX13_cancel_20 : decode cX13_cancel 20 = .ok (.invokevirtual 83, 3) := by decide +kernel
theorem dX13_cancel_23 : decode cX13_cancel 23 = .ok (.aload_n 0, 1) := by decide +kernel
theorem dX13_cancel_24 : decode cX13_cancel 24 = .ok (.iload_n 1, 1) := by decide +kernel
theorem dX13_cancel_25 : decode cX13_cancel 25 = .ok (.invokevirtual 134, 3) := by decide +kernel
theorem dX13_cancel_28 : decode cX13_cancel 28 = .ok (.ireturn, 1) := by decide +kernel
theorem dX13_scrapFor_0 : decode cX13_scrapFor 0 = .ok (.iconst (-1), 1) := by decide +kernel
theorem dX13_scrapFor_1 : decode cX13_scrapFor 1 = .ok (.istore_n 2, 1) := by decide +kernel
theorem dX13_scrapFor_2 : decode cX13_scrapFor 2 = .ok (.iconst 0, 1) := by decide +kernel
theorem dX13_scrapFor_3 : decode cX13_scrapFor 3 = .ok (.istore_n 3, 1) := by decide +kernel
theorem dX13_scrapFor_4 : decode cX13_scrapFor 4 = .ok (.iload_n 3, 1) := by decide +kernel
theorem dX13_scrapFor_5 : decode cX13_scrapFor 5 = .ok (.aload_n 0, 1) := by decide +kernel
theorem dX13_scrapFor_6 : decode cX13_scrapFor 6 = .ok (.getfield 13, 3) := by decide +kernel
theorem dX13_scrapFor_9 : decode cX13_scrapFor 9 = .ok (.iconst 4, 1) := by decide +kernel
theorem dX13_scrapFor_10 : decode cX13_scrapFor 10 = .ok (.iaload, 1) := by decide +kernel
theorem dX13_scrapFor_11 : decode cX13_scrapFor 11 = .ok (.if_icmp .ge 63, 3) := by decide +kernel
theorem dX13_scrapFor_14 : decode cX13_scrapFor 14 = .ok (.aload_n 0, 1) := by decide +kernel
theorem dX13_scrapFor_15 : decode cX13_scrapFor 15 = .ok (.iload_n 3, 1) := by decide +kernel
theorem dX13_scrapFor_16 : decode cX13_scrapFor 16 = .ok (.iconst 0, 1) := by decide +kernel
theorem dX13_scrapFor_17 : decode cX13_scrapFor 17 = .ok (.invokevirtual 106, 3) := by decide +kernel
theorem dX13_scrapFor_20 : decode cX13_scrapFor 20 = .ok (.aload_n 0, 1) := by decide +kernel
theorem dX13_scrapFor_21 : decode cX13_scrapFor 21 = .ok (.iload_n 1, 1) := by decide +kernel
theorem dX13_scrapFor_22 : decode cX13_scrapFor 22 = .ok (.iconst 1, 1) := by decide +kernel
theorem dX13_scrapFor_23 : decode cX13_scrapFor 23 = .ok (.invokevirtual 65, 3) := by decide +kernel
theorem dX13_scrapFor_26 : decode cX13_scrapFor 26 = .ok (.if_icmp .ne 42, 3) := by decide +kernel
theorem dX13_scrapFor_29 : decode cX13_scrapFor 29 = .ok (.aload_n 0, 1) := by decide +kernel
theorem dX13_scrapFor_30 : decode cX13_scrapFor 30 = .ok (.iload_n 3, 1) := by decide +kernel
theorem dX13_scrapFor_31 : decode cX13_scrapFor 31 = .ok (.iconst 1, 1) := by decide +kernel
theorem dX13_scrapFor_32 : decode cX13_scrapFor 32 = .ok (.invokevirtual 106, 3) := by decide +kernel
theorem dX13_scrapFor_35 : decode cX13_scrapFor 35 = .ok (.aload_n 0, 1) := by decide +kernel
theorem dX13_scrapFor_36 : decode cX13_scrapFor 36 = .ok (.iload_n 1, 1) := by decide +kernel
theorem dX13_scrapFor_37 : decode cX13_scrapFor 37 = .ok (.iconst 2, 1) := by decide +kernel
theorem dX13_scrapFor_38 : decode cX13_scrapFor 38 = .ok (.invokevirtual 65, 3) := by decide +kernel
theorem dX13_scrapFor_41 : decode cX13_scrapFor 41 = .ok (.if_icmp .ge 6, 3) := by decide +kernel
theorem dX13_scrapFor_44 : decode cX13_scrapFor 44 = .ok (.goto 24, 3) := by decide +kernel
theorem dX13_scrapFor_47 : decode cX13_scrapFor 47 = .ok (.iload_n 2, 1) := by decide +kernel
theorem dX13_scrapFor_48 : decode cX13_scrapFor 48 = .ok (.ifCond .lt 18, 3) := by decide +kernel
theorem dX13_scrapFor_51 : decode cX13_scrapFor 51 = .ok (.aload_n 0, 1) := by decide +kernel
theorem dX13_scrapFor_52 : decode cX13_scrapFor 52 = .ok (.iload_n 3, 1) := by decide +kernel
theorem dX13_scrapFor_53 : decode cX13_scrapFor 53 = .ok (.iconst 1, 1) := by decide +kernel
theorem dX13_scrapFor_54 : decode cX13_scrapFor 54 = .ok (.invokevirtual 106, 3) := by decide +kernel
theorem dX13_scrapFor_57 : decode cX13_scrapFor 57 = .ok (.aload_n 0, 1) := by decide +kernel
theorem dX13_scrapFor_58 : decode cX13_scrapFor 58 = .ok (.iload_n 2, 1) := by decide +kernel
theorem dX13_scrapFor_59 : decode cX13_scrapFor 59 = .ok (.iconst 1, 1) := by decide +kernel
theorem dX13_scrapFor_60 : decode cX13_scrapFor 60 = .ok (.invokevirtual 106, 3) := by decide +kernel
theorem dX13_scrapFor_63 : decode cX13_scrapFor 63 = .ok (.if_icmp .ge 5, 3) := by decide +kernel
theorem dX13_scrapFor_66 : decode cX13_scrapFor 66 = .ok (.iload_n 3, 1) := by decide +kernel
theorem dX13_scrapFor_67 : decode cX13_scrapFor 67 = .ok (.istore_n 2, 1) := by decide +kernel
theorem dX13_scrapFor_68 : decode cX13_scrapFor 68 = .ok (.iinc 3 1, 3) := by decide +kernel
theorem dX13_scrapFor_71 : decode cX13_scrapFor 71 = .ok (.goto (-67), 3) := by decide +kernel
theorem dX13_scrapFor_74 : decode cX13_scrapFor 74 = .ok (.iload_n 2, 1) := by decide +kernel
theorem dX13_scrapFor_75 : decode cX13_scrapFor 75 = .ok (.ireturn, 1) := by decide +kernel
theorem dX13_isBetter_0 : decode cX13_isBetter 0 = .ok (.aload_n 0, 1) := by decide +kernel
theorem dX13_isBetter_1 : decode cX13_isBetter 1 = .ok (.iload_n 1, 1) := by decide +kernel
theorem dX13_isBetter_2 : decode cX13_isBetter 2 = .ok (.iconst 2, 1) := by decide +kernel
theorem dX13_isBetter_3 : decode cX13_isBetter 3 = .ok (.invokevirtual 61, 3) := by decide +kernel
theorem dX13_isBetter_6 : decode cX13_isBetter 6 = .ok (.aload_n 0, 1) := by decide +kernel
theorem dX13_isBetter_7 : decode cX13_isBetter 7 = .ok (.iload_n 2, 1) := by decide +kernel
theorem dX13_isBetter_8 : decode cX13_isBetter 8 = .ok (.iconst 2, 1) := by decide +kernel
theorem dX13_isBetter_9 : decode cX13_isBetter 9 = .ok (.invokevirtual 61, 3) := by decide +kernel
theorem dX13_isBetter_12 : decode cX13_isBetter 12 = .ok (.isub, 1) := by decide +kernel
theorem dX13_isBetter_13 : decode cX13_isBetter 13 = .ok (.istore_n 3, 1) := by decide +kernel
theorem dX13_isBetter_14 : decode cX13_isBetter 14 = .ok (.aload_n 0, 1) := by decide +kernel
theorem dX13_isBetter_15 : decode cX13_isBetter 15 = .ok (.getfield 13, 3) := by decide +kernel
theorem dX13_isBetter_18 : decode cX13_isBetter 18 = .ok (.bipush 7, 2) := by decide +kernel
theorem dX13_isBetter_20 : decode cX13_isBetter 20 = .ok (.iaload, 1) := by decide +kernel
theorem dX13_isBetter_21 : decode cX13_isBetter 21 = .ok (.bipush 98, 2) := by decide +kernel
theorem dX13_isBetter_23 : decode cX13_isBetter 23 = .ok (.if_icmp .ne 7, 3) := by decide +kernel
theorem dX13_isBetter_26 : decode cX13_isBetter 26 = .ok (.iload_n 3, 1) := by decide +kernel
theorem dX13_isBetter_27 : decode cX13_isBetter 27 = .ok (.ifCond .lt 19, 3) := by decide +kernel
theorem dX13_isBetter_30 : decode cX13_isBetter 30 = .ok (.aload_n 0, 1) := by decide +kernel
theorem dX13_isBetter_31 : decode cX13_isBetter 31 = .ok (.getfield 13, 3) := by decide +kernel
theorem dX13_isBetter_34 : decode cX13_isBetter 34 = .ok (.bipush 7, 2) := by decide +kernel
theorem dX13_isBetter_36 : decode cX13_isBetter 36 = .ok (.iaload, 1) := by decide +kernel
theorem dX13_isBetter_37 : decode cX13_isBetter 37 = .ok (.bipush 119, 2) := by decide +kernel
theorem dX13_isBetter_39 : decode cX13_isBetter 39 = .ok (.if_icmp .ne 11, 3) := by decide +kernel
theorem dX13_isBetter_42 : decode cX13_isBetter 42 = .ok (.iload_n 3, 1) := by decide +kernel
theorem dX13_isBetter_43 : decode cX13_isBetter 43 = .ok (.ifCond .le 7, 3) := by decide +kernel
theorem dX13_isBetter_46 : decode cX13_isBetter 46 = .ok (.iconst 1, 1) := by decide +kernel
theorem dX13_isBetter_47 : decode cX13_isBetter 47 = .ok (.goto 4, 3) := by decide +kernel
theorem dX13_isBetter_50 : decode cX13_isBetter 50 = .ok (.iconst 0, 1) := by decide +kernel
theorem dX13_isBetter_51 : decode cX13_isBetter 51 = .ok (.ireturn, 1) := by decide +kernel
theorem dX13_spoolFor_0 : decode cX13_spoolFor 0 = .ok (.iconst (-1), 1) := by decide +kernel
theorem dX13_spoolFor_1 : decode cX13_spoolFor 1 = .ok (.istore_n 2, 1) := by decide +kernel
theorem dX13_spoolFor_2 : decode cX13_spoolFor 2 = .ok (.iconst 0, 1) := by decide +kernel
theorem dX13_spoolFor_3 : decode cX13_spoolFor 3 = .ok (.istore_n 3, 1) := by decide +kernel
theorem dX13_spoolFor_4 : decode cX13_spoolFor 4 = .ok (.iload_n 3, 1) := by decide +kernel
theorem dX13_spoolFor_5 : decode cX13_spoolFor 5 = .ok (.aload_n 0, 1) := by decide +kernel
theorem dX13_spoolFor_6 : decode cX13_spoolFor 6 = .ok (.getfield 13, 3) := by decide +kernel
theorem dX13_spoolFor_9 : decode cX13_spoolFor 9 = .ok (.iconst 0, 1) := by decide +kernel
theorem dX13_spoolFor_10 : decode cX13_spoolFor 10 = .ok (.iaload, 1) := by decide +kernel
theorem dX13_spoolFor_11 : decode cX13_spoolFor 11 = .ok (.if_icmp .ge 57, 3) := by decide +kernel
theorem dX13_spoolFor_14 : decode cX13_spoolFor 14 = .ok (.aload_n 0, 1) := by decide +kernel
theorem dX13_spoolFor_15 : decode cX13_spoolFor 15 = .ok (.iload_n 3, 1) := by decide +kernel
theorem dX13_spoolFor_16 : decode cX13_spoolFor 16 = .ok (.iconst 1, 1) := by decide +kernel
theorem dX13_spoolFor_17 : decode cX13_spoolFor 17 = .ok (.invokevirtual 61, 3) := by decide +kernel
theorem dX13_spoolFor_20 : decode cX13_spoolFor 20 = .ok (.aload_n 0, 1) := by decide +kernel
theorem dX13_spoolFor_21 : decode cX13_spoolFor 21 = .ok (.iload_n 1, 1) := by decide +kernel
theorem dX13_spoolFor_22 : decode cX13_spoolFor 22 = .ok (.iconst 1, 1) := by decide +kernel
theorem dX13_spoolFor_23 : decode cX13_spoolFor 23 = .ok (.invokevirtual 65, 3) := by decide +kernel
theorem dX13_spoolFor_26 : decode cX13_spoolFor 26 = .ok (.if_icmp .ne 36, 3) := by decide +kernel
theorem dX13_spoolFor_29 : decode cX13_spoolFor 29 = .ok (.aload_n 0, 1) := by decide +kernel
theorem dX13_spoolFor_30 : decode cX13_spoolFor 30 = .ok (.iload_n 3, 1) := by decide +kernel
theorem dX13_spoolFor_31 : decode cX13_spoolFor 31 = .ok (.iconst 2, 1) := by decide +kernel
theorem dX13_spoolFor_32 : decode cX13_spoolFor 32 = .ok (.invokevirtual 61, 3) := by decide +kernel
theorem dX13_spoolFor_35 : decode cX13_spoolFor 35 = .ok (.aload_n 0, 1) := by decide +kernel
theorem dX13_spoolFor_36 : decode cX13_spoolFor 36 = .ok (.iload_n 1, 1) := by decide +kernel
theorem dX13_spoolFor_37 : decode cX13_spoolFor 37 = .ok (.iconst 2, 1) := by decide +kernel
theorem dX13_spoolFor_38 : decode cX13_spoolFor 38 = .ok (.invokevirtual 65, 3) := by decide +kernel
theorem dX13_spoolFor_41 : decode cX13_spoolFor 41 = .ok (.if_icmp .ge 6, 3) := by decide +kernel
theorem dX13_spoolFor_44 : decode cX13_spoolFor 44 = .ok (.goto 18, 3) := by decide +kernel
theorem dX13_spoolFor_47 : decode cX13_spoolFor 47 = .ok (.iload_n 2, 1) := by decide +kernel
theorem dX13_spoolFor_48 : decode cX13_spoolFor 48 = .ok (.ifCond .lt 12, 3) := by decide +kernel
theorem dX13_spoolFor_51 : decode cX13_spoolFor 51 = .ok (.aload_n 0, 1) := by decide +kernel
theorem dX13_spoolFor_52 : decode cX13_spoolFor 52 = .ok (.iload_n 3, 1) := by decide +kernel
theorem dX13_spoolFor_53 : decode cX13_spoolFor 53 = .ok (.iload_n 2, 1) := by decide +kernel
theorem dX13_spoolFor_54 : decode cX13_spoolFor 54 = .ok (.invokevirtual 137, 3) := by decide +kernel
theorem dX13_spoolFor_57 : decode cX13_spoolFor 57 = .ok (.ifCond .eq 5, 3) := by decide +kernel
theorem dX13_spoolFor_60 : decode cX13_spoolFor 60 = .ok (.iload_n 3, 1) := by decide +kernel
theorem dX13_spoolFor_61 : decode cX13_spoolFor 61 = .ok (.istore_n 2, 1) := by decide +kernel
theorem dX13_spoolFor_62 : decode cX13_spoolFor 62 = .ok (.iinc 3 1, 3) := by decide +kernel
theorem dX13_spoolFor_65 : decode cX13_spoolFor 65 = .ok (.goto (-61), 3) := by decide +kernel
theorem dX13_spoolFor_68 : decode cX13_spoolFor 68 = .ok (.iload_n 2, 1) := by decide +kernel
theorem dX13_spoolFor_69 : decode cX13_spoolFor 69 = .ok (.ireturn, 1) := by decide +kernel
theorem dX13_isFillable_0 : decode cX13_isFillable 0 = .ok (.aload_n 0, 1) := by decide +kernel
theorem dX13_isFillable_1 : decode cX13_isFillable 1 = .ok (.iload_n 1, 1) := by decide +kernel
theorem dX13_isFillable_2 : decode cX13_isFillable 2 = .ok (.invokevirtual 141, 3) := by decide +kernel
theorem dX13_isFillable_5 : decode cX13_isFillable 5 = .ok (.ifCond .ge 11, 3) := by decide +kernel
theorem dX13_isFillable_8 : decode cX13_isFillable 8 = .ok (.aload_n 0, 1) := by decide +kernel
theorem dX13_isFillable_9 : decode cX13_isFillable 9 = .ok (.iload_n 1, 1) := by decide +kernel
theorem dX13_isFillable_10 : decode cX13_isFillable 10 = .ok (.invokevirtual 144, 3) := by decide +kernel
theorem dX13_isFillable_13 : decode cX13_isFillable 13 = .ok (.ifCond .lt 7, 3) := by decide +kernel
theorem dX13_isFillable_16 : decode cX13_isFillable 16 = .ok (.iconst 1, 1) := by decide +kernel
theorem dX13_isFillable_17 : decode cX13_isFillable 17 = .ok (.goto 4, 3) := by decide +kernel
theorem dX13_isFillable_20 : decode cX13_isFillable 20 = .ok (.iconst 0, 1) := by decide +kernel
theorem dX13_isFillable_21 : decode cX13_isFillable 21 = .ok (.ireturn, 1) := by decide +kernel
theorem dX13_leftOf_0 : decode cX13_leftOf 0 = .ok (.iload_n 2, 1) := by decide +kernel
theorem dX13_leftOf_1 : decode cX13_leftOf 1 = .ok (.iload_n 3, 1) := by decide +kernel
theorem dX13_leftOf_2 : decode cX13_leftOf 2 = .ok (.isub, 1) := by decide +kernel
theorem dX13_leftOf_3 : decode cX13_leftOf 3 = .ok (.istore 4, 2) := by decide +kernel
theorem dX13_leftOf_5 : decode cX13_leftOf 5 = .ok (.iload 4, 2) := by decide +kernel
theorem dX13_leftOf_7 : decode cX13_leftOf 7 = .ok (.aload_n 0, 1) := by decide +kernel
theorem dX13_leftOf_8 : decode cX13_leftOf 8 = .ok (.getfield 13, 3) := by decide +kernel
theorem dX13_leftOf_11 : decode cX13_leftOf 11 = .ok (.iconst 5, 1) := by decide +kernel
theorem dX13_leftOf_12 : decode cX13_leftOf 12 = .ok (.iaload, 1) := by decide +kernel
theorem dX13_leftOf_13 : decode cX13_leftOf 13 = .ok (.if_icmp .ge 8, 3) := by decide +kernel
theorem dX13_leftOf_16 : decode cX13_leftOf 16 = .ok (.iload 4, 2) := by decide +kernel
theorem dX13_leftOf_18 : decode cX13_leftOf 18 = .ok (.goto 9, 3) := by decide +kernel
theorem dX13_leftOf_21 : decode cX13_leftOf 21 = .ok (.aload_n 0, 1) := by decide +kernel
theorem dX13_leftOf_22 : decode cX13_leftOf 22 = .ok (.getfield 13, 3) := by decide +kernel
theorem dX13_leftOf_25 : decode cX13_leftOf 25 = .ok (.iconst 5, 1) := by decide +kernel
theorem dX13_leftOf_26 : decode cX13_leftOf 26 = .ok (.iaload, 1) := by decide +kernel
theorem dX13_leftOf_27 : decode cX13_leftOf 27 = .ok (.istore 5, 2) := by decide +kernel
theorem dX13_leftOf_29 : decode cX13_leftOf 29 = .ok (.aload_n 0, 1) := by decide +kernel
theorem dX13_leftOf_30 : decode cX13_leftOf 30 = .ok (.getfield 13, 3) := by decide +kernel
theorem dX13_leftOf_33 : decode cX13_leftOf 33 = .ok (.bipush 15, 2) := by decide +kernel
theorem dX13_leftOf_35 : decode cX13_leftOf 35 = .ok (.iload_n 1, 1) := by decide +kernel
theorem dX13_leftOf_36 : decode cX13_leftOf 36 = .ok (.iadd, 1) := by decide +kernel
theorem dX13_leftOf_37 : decode cX13_leftOf 37 = .ok (.dup2, 1) := by decide +kernel
theorem dX13_leftOf_38 : decode cX13_leftOf 38 = .ok (.iaload, 1) := by decide +kernel
theorem dX13_leftOf_39 : decode cX13_leftOf 39 = .ok (.iload_n 3, 1) := by decide +kernel
theorem dX13_leftOf_40 : decode cX13_leftOf 40 = .ok (.iadd, 1) := by decide +kernel
theorem dX13_leftOf_41 : decode cX13_leftOf 41 = .ok (.iastore, 1) := by decide +kernel
theorem dX13_leftOf_42 : decode cX13_leftOf 42 = .ok (.aload_n 0, 1) := by decide +kernel
theorem dX13_leftOf_43 : decode cX13_leftOf 43 = .ok (.getfield 13, 3) := by decide +kernel
theorem dX13_leftOf_46 : decode cX13_leftOf 46 = .ok (.bipush 21, 2) := by decide +kernel
theorem dX13_leftOf_48 : decode cX13_leftOf 48 = .ok (.iload_n 1, 1) := by decide +kernel
theorem dX13_leftOf_49 : decode cX13_leftOf 49 = .ok (.iadd, 1) := by decide +kernel
theorem dX13_leftOf_50 : decode cX13_leftOf 50 = .ok (.dup2, 1) := by decide +kernel
theorem dX13_leftOf_51 : decode cX13_leftOf 51 = .ok (.iaload, 1) := by decide +kernel
theorem dX13_leftOf_52 : decode cX13_leftOf 52 = .ok (.iload 5, 2) := by decide +kernel
theorem dX13_leftOf_54 : decode cX13_leftOf 54 = .ok (.iadd, 1) := by decide +kernel
theorem dX13_leftOf_55 : decode cX13_leftOf 55 = .ok (.iastore, 1) := by decide +kernel
theorem dX13_leftOf_56 : decode cX13_leftOf 56 = .ok (.iload 4, 2) := by decide +kernel
theorem dX13_leftOf_58 : decode cX13_leftOf 58 = .ok (.iload 5, 2) := by decide +kernel
theorem dX13_leftOf_60 : decode cX13_leftOf 60 = .ok (.isub, 1) := by decide +kernel
theorem dX13_leftOf_61 : decode cX13_leftOf 61 = .ok (.ireturn, 1) := by decide +kernel
theorem dX13_cutsScrap_0 : decode cX13_cutsScrap 0 = .ok (.aload_n 0, 1) := by decide +kernel
theorem dX13_cutsScrap_1 : decode cX13_cutsScrap 1 = .ok (.aload_n 0, 1) := by decide +kernel
theorem dX13_cutsScrap_2 : decode cX13_cutsScrap 2 = .ok (.iload_n 1, 1) := by decide +kernel
theorem dX13_cutsScrap_3 : decode cX13_cutsScrap 3 = .ok (.iconst 0, 1) := by decide +kernel
theorem dX13_cutsScrap_4 : decode cX13_cutsScrap 4 = .ok (.invokevirtual 106, 3) := by decide +kernel
theorem dX13_cutsScrap_7 : decode cX13_cutsScrap 7 = .ok (.aload_n 0, 1) := by decide +kernel
theorem dX13_cutsScrap_8 : decode cX13_cutsScrap 8 = .ok (.iload_n 1, 1) := by decide +kernel
theorem dX13_cutsScrap_9 : decode cX13_cutsScrap 9 = .ok (.iconst 1, 1) := by decide +kernel
theorem dX13_cutsScrap_10 : decode cX13_cutsScrap 10 = .ok (.invokevirtual 106, 3) := by decide +kernel
theorem dX13_cutsScrap_13 : decode cX13_cutsScrap 13 = .ok (.iload_n 2, 1) := by decide +kernel
theorem dX13_cutsScrap_14 : decode cX13_cutsScrap 14 = .ok (.invokevirtual 147, 3) := by decide +kernel
theorem dX13_cutsScrap_17 : decode cX13_cutsScrap 17 = .ok (.istore_n 3, 1) := by decide +kernel
theorem dX13_cutsScrap_18 : decode cX13_cutsScrap 18 = .ok (.aload_n 0, 1) := by decide +kernel
theorem dX13_cutsScrap_19 : decode cX13_cutsScrap 19 = .ok (.getfield 13, 3) := by decide +kernel
theorem dX13_cutsScrap_22 : decode cX13_cutsScrap 22 = .ok (.bipush 121, 2) := by decide +kernel
theorem dX13_cutsScrap_24 : decode cX13_cutsScrap 24 = .ok (.iconst 2, 1) := by decide +kernel
theorem dX13_cutsScrap_25 : decode cX13_cutsScrap 25 = .ok (.iload_n 1, 1) := by decide +kernel
theorem dX13_cutsScrap_26 : decode cX13_cutsScrap 26 = .ok (.imul, 1) := by decide +kernel
theorem dX13_cutsScrap_27 : decode cX13_cutsScrap 27 = .ok (.iadd, 1) := by decide +kernel
theorem dX13_cutsScrap_28 : decode cX13_cutsScrap 28 = .ok (.iconst 1, 1) := by decide +kernel
theorem dX13_cutsScrap_29 : decode cX13_cutsScrap 29 = .ok (.iadd, 1) := by decide +kernel
theorem dX13_cutsScrap_30 : decode cX13_cutsScrap 30 = .ok (.iload_n 3, 1) := by decide +kernel
theorem dX13_cutsScrap_31 : decode cX13_cutsScrap 31 = .ok (.iastore, 1) := by decide +kernel
theorem dX13_cutsScrap_32 : decode cX13_cutsScrap 32 = .ok (.iload_n 3, 1) := by decide +kernel
theorem dX13_cutsScrap_33 : decode cX13_cutsScrap 33 = .ok (.ifCond .ne 8, 3) := by decide +kernel
theorem dX13_cutsScrap_36 : decode cX13_cutsScrap 36 = .ok (.aload_n 0, 1) := by decide +kernel
theorem dX13_cutsScrap_37 : decode cX13_cutsScrap 37 = .ok (.iload_n 1, 1) := by decide +kernel
theorem dX13_cutsScrap_38 : decode cX13_cutsScrap 38 = .ok (.invokevirtual 109, 3) := by decide +kernel
theorem dX13_cutsScrap_41 : decode cX13_cutsScrap 41 = .ok (.return_, 1) := by decide +kernel
theorem dX13_cutsSpool_0 : decode cX13_cutsSpool 0 = .ok (.aload_n 0, 1) := by decide +kernel
theorem dX13_cutsSpool_1 : decode cX13_cutsSpool 1 = .ok (.iload_n 1, 1) := by decide +kernel
theorem dX13_cutsSpool_2 : decode cX13_cutsSpool 2 = .ok (.iconst 1, 1) := by decide +kernel
theorem dX13_cutsSpool_3 : decode cX13_cutsSpool 3 = .ok (.invokevirtual 61, 3) := by decide +kernel
theorem dX13_cutsSpool_6 : decode cX13_cutsSpool 6 = .ok (.istore_n 3, 1) := by decide +kernel
theorem dX13_cutsSpool_7 : decode cX13_cutsSpool 7 = .ok (.aload_n 0, 1) := by decide +kernel
theorem dX13_cutsSpool_8 : decode cX13_cutsSpool 8 = .ok (.iload_n 3, 1) := by decide +kernel
theorem dX13_cutsSpool_9 : decode cX13_cutsSpool 9 = .ok (.aload_n 0, 1) := by decide +kernel
theorem dX13_cutsSpool_10 : decode cX13_cutsSpool 10 = .ok (.iload_n 1, 1) := by decide +kernel
theorem dX13_cutsSpool_11 : decode cX13_cutsSpool 11 = .ok (.iconst 2, 1) := by decide +kernel
theorem dX13_cutsSpool_12 : decode cX13_cutsSpool 12 = .ok (.invokevirtual 61, 3) := by decide +kernel
theorem dX13_cutsSpool_15 : decode cX13_cutsSpool 15 = .ok (.iload_n 2, 1) := by decide +kernel
theorem dX13_cutsSpool_16 : decode cX13_cutsSpool 16 = .ok (.invokevirtual 147, 3) := by decide +kernel
theorem dX13_cutsSpool_19 : decode cX13_cutsSpool 19 = .ok (.istore 4, 2) := by decide +kernel
theorem dX13_cutsSpool_21 : decode cX13_cutsSpool 21 = .ok (.aload_n 0, 1) := by decide +kernel
theorem dX13_cutsSpool_22 : decode cX13_cutsSpool 22 = .ok (.getfield 13, 3) := by decide +kernel
theorem dX13_cutsSpool_25 : decode cX13_cutsSpool 25 = .ok (.bipush 33, 2) := by decide +kernel
theorem dX13_cutsSpool_27 : decode cX13_cutsSpool 27 = .ok (.iconst 4, 1) := by decide +kernel
theorem dX13_cutsSpool_28 : decode cX13_cutsSpool 28 = .ok (.iload_n 1, 1) := by decide +kernel
theorem dX13_cutsSpool_29 : decode cX13_cutsSpool 29 = .ok (.imul, 1) := by decide +kernel
theorem dX13_cutsSpool_30 : decode cX13_cutsSpool 30 = .ok (.iadd, 1) := by decide +kernel
theorem dX13_cutsSpool_31 : decode cX13_cutsSpool 31 = .ok (.iconst 2, 1) := by decide +kernel
theorem dX13_cutsSpool_32 : decode cX13_cutsSpool 32 = .ok (.iadd, 1) := by decide +kernel
theorem dX13_cutsSpool_33 : decode cX13_cutsSpool 33 = .ok (.iload 4, 2) := by decide +kernel
theorem dX13_cutsSpool_35 : decode cX13_cutsSpool 35 = .ok (.iastore, 1) := by decide +kernel
theorem dX13_cutsSpool_36 : decode cX13_cutsSpool 36 = .ok (.aload_n 0, 1) := by decide +kernel
theorem dX13_cutsSpool_37 : decode cX13_cutsSpool 37 = .ok (.getfield 13, 3) := by decide +kernel
theorem dX13_cutsSpool_40 : decode cX13_cutsSpool 40 = .ok (.bipush 33, 2) := by decide +kernel
theorem dX13_cutsSpool_42 : decode cX13_cutsSpool 42 = .ok (.iconst 4, 1) := by decide +kernel
theorem dX13_cutsSpool_43 : decode cX13_cutsSpool 43 = .ok (.iload_n 1, 1) := by decide +kernel
theorem dX13_cutsSpool_44 : decode cX13_cutsSpool 44 = .ok (.imul, 1) := by decide +kernel
theorem dX13_cutsSpool_45 : decode cX13_cutsSpool 45 = .ok (.iadd, 1) := by decide +kernel
theorem dX13_cutsSpool_46 : decode cX13_cutsSpool 46 = .ok (.iconst 3, 1) := by decide +kernel
theorem dX13_cutsSpool_47 : decode cX13_cutsSpool 47 = .ok (.iadd, 1) := by decide +kernel
theorem dX13_cutsSpool_48 : decode cX13_cutsSpool 48 = .ok (.dup2, 1) := by decide +kernel
theorem dX13_cutsSpool_49 : decode cX13_cutsSpool 49 = .ok (.iaload, 1) := by decide +kernel
theorem dX13_cutsSpool_50 : decode cX13_cutsSpool 50 = .ok (.iconst 1, 1) := by decide +kernel
theorem dX13_cutsSpool_51 : decode cX13_cutsSpool 51 = .ok (.iadd, 1) := by decide +kernel
theorem dX13_cutsSpool_52 : decode cX13_cutsSpool 52 = .ok (.iastore, 1) := by decide +kernel
theorem dX13_cutsSpool_53 : decode cX13_cutsSpool 53 = .ok (.iload 4, 2) := by decide +kernel
theorem dX13_cutsSpool_55 : decode cX13_cutsSpool 55 = .ok (.aload_n 0, 1) := by decide +kernel
theorem dX13_cutsSpool_56 : decode cX13_cutsSpool 56 = .ok (.getfield 13, 3) := by decide +kernel
theorem dX13_cutsSpool_59 : decode cX13_cutsSpool 59 = .ok (.bipush 6, 2) := by decide +kernel
theorem dX13_cutsSpool_61 : decode cX13_cutsSpool 61 = .ok (.iaload, 1) := by decide +kernel
theorem dX13_cutsSpool_62 : decode cX13_cutsSpool 62 = .ok (.if_icmp .lt 4, 3) := by decide +kernel
theorem dX13_cutsSpool_65 : decode cX13_cutsSpool 65 = .ok (.return_, 1) := by decide +kernel
theorem dX13_cutsSpool_66 : decode cX13_cutsSpool 66 = .ok (.aload_n 0, 1) := by decide +kernel
theorem dX13_cutsSpool_67 : decode cX13_cutsSpool 67 = .ok (.iload_n 1, 1) := by decide +kernel
theorem dX13_cutsSpool_68 : decode cX13_cutsSpool 68 = .ok (.invokevirtual 96, 3) := by decide +kernel
theorem dX13_cutsSpool_71 : decode cX13_cutsSpool 71 = .ok (.iload 4, 2) := by decide +kernel
theorem dX13_cutsSpool_73 : decode cX13_cutsSpool 73 = .ok (.ifCond .le 10, 3) := by decide +kernel
theorem dX13_cutsSpool_76 : decode cX13_cutsSpool 76 = .ok (.aload_n 0, 1) := by decide +kernel
theorem dX13_cutsSpool_77 : decode cX13_cutsSpool 77 = .ok (.iload_n 3, 1) := by decide +kernel
theorem dX13_cutsSpool_78 : decode cX13_cutsSpool 78 = .ok (.iload 4, 2) := by decide +kernel
theorem dX13_cutsSpool_80 : decode cX13_cutsSpool 80 = .ok (.invokevirtual 92, 3) := by decide +kernel
theorem dX13_cutsSpool_83 : decode cX13_cutsSpool 83 = .ok (.return_, 1) := by decide +kernel
theorem dX13_fillsAt_0 : decode cX13_fillsAt 0 = .ok (.aload_n 0, 1) := by decide +kernel
theorem dX13_fillsAt_1 : decode cX13_fillsAt 1 = .ok (.iload_n 1, 1) := by decide +kernel
theorem dX13_fillsAt_2 : decode cX13_fillsAt 2 = .ok (.iconst 2, 1) := by decide +kernel
theorem dX13_fillsAt_3 : decode cX13_fillsAt 3 = .ok (.invokevirtual 65, 3) := by decide +kernel
theorem dX13_fillsAt_6 : decode cX13_fillsAt 6 = .ok (.istore_n 2, 1) := by decide +kernel
theorem dX13_fillsAt_7 : decode cX13_fillsAt 7 = .ok (.aload_n 0, 1) := by decide +kernel
theorem dX13_fillsAt_8 : decode cX13_fillsAt 8 = .ok (.iload_n 1, 1) := by decide +kernel
theorem dX13_fillsAt_9 : decode cX13_fillsAt 9 = .ok (.invokevirtual 141, 3) := by decide +kernel
theorem dX13_fillsAt_12 : decode cX13_fillsAt 12 = .ok (.istore_n 3, 1) := by decide +kernel
theorem dX13_fillsAt_13 : decode cX13_fillsAt 13 = .ok (.aload_n 0, 1) := by decide +kernel
theorem dX13_fillsAt_14 : decode cX13_fillsAt 14 = .ok (.iload_n 1, 1) := by decide +kernel
theorem dX13_fillsAt_15 : decode cX13_fillsAt 15 = .ok (.invokevirtual 144, 3) := by decide +kernel
theorem dX13_fillsAt_18 : decode cX13_fillsAt 18 = .ok (.istore 4, 2) := by decide +kernel
theorem dX13_fillsAt_20 : decode cX13_fillsAt 20 = .ok (.aload_n 0, 1) := by decide +kernel
theorem dX13_fillsAt_21 : decode cX13_fillsAt 21 = .ok (.getfield 13, 3) := by decide +kernel
theorem dX13_fillsAt_24 : decode cX13_fillsAt 24 = .ok (.bipush 8, 2) := by decide +kernel
theorem dX13_fillsAt_26 : decode cX13_fillsAt 26 = .ok (.dup2, 1) := by decide +kernel
theorem dX13_fillsAt_27 : decode cX13_fillsAt 27 = .ok (.iaload, 1) := by decide +kernel
theorem dX13_fillsAt_28 : decode cX13_fillsAt 28 = .ok (.iconst 1, 1) := by decide +kernel
theorem dX13_fillsAt_29 : decode cX13_fillsAt 29 = .ok (.iadd, 1) := by decide +kernel
theorem dX13_fillsAt_30 : decode cX13_fillsAt 30 = .ok (.iastore, 1) := by decide +kernel
theorem dX13_fillsAt_31 : decode cX13_fillsAt 31 = .ok (.aload_n 0, 1) := by decide +kernel
theorem dX13_fillsAt_32 : decode cX13_fillsAt 32 = .ok (.iload_n 1, 1) := by decide +kernel
theorem dX13_fillsAt_33 : decode cX13_fillsAt 33 = .ok (.invokevirtual 128, 3) := by decide +kernel
theorem dX13_fillsAt_36 : decode cX13_fillsAt 36 = .ok (.iload_n 3, 1) := by decide +kernel
theorem dX13_fillsAt_37 : decode cX13_fillsAt 37 = .ok (.ifCond .lt 11, 3) := by decide +kernel
theorem dX13_fillsAt_40 : decode cX13_fillsAt 40 = .ok (.aload_n 0, 1) := by decide +kernel
theorem dX13_fillsAt_41 : decode cX13_fillsAt 41 = .ok (.iload_n 3, 1) := by decide +kernel
theorem dX13_fillsAt_42 : decode cX13_fillsAt 42 = .ok (.iload_n 2, 1) := by decide +kernel
theorem dX13_fillsAt_43 : decode cX13_fillsAt 43 = .ok (.invokevirtual 150, 3) := by decide +kernel
theorem dX13_fillsAt_46 : decode cX13_fillsAt 46 = .ok (.iconst (-1), 1) := by decide +kernel
theorem dX13_fillsAt_47 : decode cX13_fillsAt 47 = .ok (.ireturn, 1) := by decide +kernel
theorem dX13_fillsAt_48 : decode cX13_fillsAt 48 = .ok (.aload_n 0, 1) := by decide +kernel
theorem dX13_fillsAt_49 : decode cX13_fillsAt 49 = .ok (.iload 4, 2) := by decide +kernel
theorem dX13_fillsAt_51 : decode cX13_fillsAt 51 = .ok (.iconst 0, 1) := by decide +kernel
theorem dX13_fillsAt_52 : decode cX13_fillsAt 52 = .ok (.invokevirtual 61, 3) := by decide +kernel
theorem dX13_fillsAt_55 : decode cX13_fillsAt 55 = .ok (.istore 5, 2) := by decide +kernel
theorem dX13_fillsAt_57 : decode cX13_fillsAt 57 = .ok (.aload_n 0, 1) := by decide +kernel
theorem dX13_fillsAt_58 : decode cX13_fillsAt 58 = .ok (.iload 4, 2) := by decide +kernel
theorem dX13_fillsAt_60 : decode cX13_fillsAt 60 = .ok (.iload_n 2, 1) := by decide +kernel
theorem dX13_fillsAt_61 : decode cX13_fillsAt 61 = .ok (.invokevirtual 153, 3) := by decide +kernel
theorem dX13_fillsAt_64 : decode cX13_fillsAt 64 = .ok (.iload 5, 2) := by decide +kernel
theorem dX13_fillsAt_66 : decode cX13_fillsAt 66 = .ok (.ireturn, 1) := by decide +kernel
theorem dX13_notFill_0 : decode cX13_notFill 0 = .ok (.aload_n 0, 1) := by decide +kernel
theorem dX13_notFill_1 : decode cX13_notFill 1 = .ok (.iload_n 1, 1) := by decide +kernel
theorem dX13_notFill_2 : decode cX13_notFill 2 = .ok (.invokevirtual 125, 3) := by decide +kernel
theorem dX13_notFill_5 : decode cX13_notFill 5 = .ok (.istore_n 2, 1) := by decide +kernel
theorem dX13_notFill_6 : decode cX13_notFill 6 = .ok (.iload_n 2, 1) := by decide +kernel
theorem dX13_notFill_7 : decode cX13_notFill 7 = .ok (.ifCond .ge 5, 3) := by decide +kernel
theorem dX13_notFill_10 : decode cX13_notFill 10 = .ok (.iconst 1, 1) := by decide +kernel
theorem dX13_notFill_11 : decode cX13_notFill 11 = .ok (.ireturn, 1) := by decide +kernel
theorem dX13_notFill_12 : decode cX13_notFill 12 = .ok (.aload_n 0, 1) := by decide +kernel
theorem dX13_notFill_13 : decode cX13_notFill 13 = .ok (.iload_n 2, 1) := by decide +kernel
theorem dX13_notFill_14 : decode cX13_notFill 14 = .ok (.invokevirtual 156, 3) := by decide +kernel
theorem dX13_notFill_17 : decode cX13_notFill 17 = .ok (.ifCond .eq 7, 3) := by decide +kernel
theorem dX13_notFill_20 : decode cX13_notFill 20 = .ok (.iconst 0, 1) := by decide +kernel
theorem dX13_notFill_21 : decode cX13_notFill 21 = .ok (.goto 4, 3) := by decide +kernel
theorem dX13_notFill_24 : decode cX13_notFill 24 = .ok (.iconst 2, 1) := by decide +kernel
theorem dX13_notFill_25 : decode cX13_notFill 25 = .ok (.ireturn, 1) := by decide +kernel
theorem dX13_fill_0 : decode cX13_fill 0 = .ok (.aload_n 0, 1) := by decide +kernel
theorem dX13_fill_1 : decode cX13_fill 1 = .ok (.iconst 0, 1) := by decide +kernel
theorem dX13_fill_2 : decode cX13_fill 2 = .ok (.putfield 1, 3) := by decide +kernel
theorem dX13_fill_5 : decode cX13_fill 5 = .ok (.aload_n 0, 1) := by decide +kernel
theorem dX13_fill_6 : decode cX13_fill 6 = .ok (.iload_n 1, 1) := by decide +kernel
theorem dX13_fill_7 : decode cX13_fill 7 = .ok (.invokevirtual 159, 3) := by decide +kernel
theorem dX13_fill_10 : decode cX13_fill 10 = .ok (.istore_n 2, 1) := by decide +kernel
theorem dX13_fill_11 : decode cX13_fill 11 = .ok (.iload_n 2, 1) := by decide +kernel
theorem dX13_fill_12 : decode cX13_fill 12 = .ok (.ifCond .eq 9, 3) := by decide +kernel
theorem dX13_fill_15 : decode cX13_fill 15 = .ok (.aload_n 0, 1) := by decide +kernel
theorem dX13_fill_16 : decode cX13_fill 16 = .ok (.iload_n 2, 1) := by decide +kernel
theorem dX13_fill_17 : decode cX13_fill 17 = .ok (.invokevirtual 79, 3) := by decide +kernel
theorem dX13_fill_20 : decode cX13_fill 20 = .ok (.ireturn, 1) := by decide +kernel
theorem dX13_fill_21 : decode cX13_fill 21 = .ok (.aload_n 0, 1) := by decide +kernel
theorem dX13_fill_22 : decode cX13_fill 22 = .ok (.invokevirtual 83, 3) := by decide +kernel
theorem dX13_fill_25 : decode cX13_fill 25 = .ok (.aload_n 0, 1) := by decide +kernel
theorem dX13_fill_26 : decode cX13_fill 26 = .ok (.aload_n 0, 1) := by decide +kernel
theorem dX13_fill_27 : decode cX13_fill 27 = .ok (.iload_n 1, 1) := by decide +kernel
theorem dX13_fill_28 : decode cX13_fill 28 = .ok (.invokevirtual 125, 3) := by decide +kernel
theorem dX13_fill_31 : decode cX13_fill 31 = .ok (.invokevirtual 162, 3) := by decide +kernel
theorem dX13_fill_34 : decode cX13_fill 34 = .ok (.ireturn, 1) := by decide +kernel
theorem dX13_notDue_0 : decode cX13_notDue 0 = .ok (.iload_n 0, 1) := by decide +kernel
theorem dX13_notDue_1 : decode cX13_notDue 1 = .ok (.iconst 1, 1) := by decide +kernel
theorem dX13_notDue_2 : decode cX13_notDue 2 = .ok (.bipush 99, 2) := by decide +kernel
theorem dX13_notDue_4 : decode cX13_notDue 4 = .ok (.invokestatic 57, 3) := by decide +kernel
theorem dX13_notDue_7 : decode cX13_notDue 7 = .ok (.ifCond .eq 7, 3) := by decide +kernel
theorem dX13_notDue_10 : decode cX13_notDue 10 = .ok (.iconst 0, 1) := by decide +kernel
theorem dX13_notDue_11 : decode cX13_notDue 11 = .ok (.goto 4, 3) := by decide +kernel
theorem dX13_notDue_14 : decode cX13_notDue 14 = .ok (.iconst 1, 1) := by decide +kernel
theorem dX13_notDue_15 : decode cX13_notDue 15 = .ok (.ireturn, 1) := by decide +kernel
theorem dX13_fillsDue_0 : decode cX13_fillsDue 0 = .ok (.iconst 0, 1) := by decide +kernel
theorem dX13_fillsDue_1 : decode cX13_fillsDue 1 = .ok (.istore_n 2, 1) := by decide +kernel
theorem dX13_fillsDue_2 : decode cX13_fillsDue 2 = .ok (.iconst 0, 1) := by decide +kernel
theorem dX13_fillsDue_3 : decode cX13_fillsDue 3 = .ok (.istore_n 3, 1) := by decide +kernel
theorem dX13_fillsDue_4 : decode cX13_fillsDue 4 = .ok (.iload_n 3, 1) := by decide +kernel
theorem dX13_fillsDue_5 : decode cX13_fillsDue 5 = .ok (.aload_n 0, 1) := by decide +kernel
theorem dX13_fillsDue_6 : decode cX13_fillsDue 6 = .ok (.getfield 13, 3) := by decide +kernel
theorem dX13_fillsDue_9 : decode cX13_fillsDue 9 = .ok (.iconst 2, 1) := by decide +kernel
theorem dX13_fillsDue_10 : decode cX13_fillsDue 10 = .ok (.iaload, 1) := by decide +kernel
theorem dX13_fillsDue_11 : decode cX13_fillsDue 11 = .ok (.if_icmp .ge 39, 3) := by decide +kernel
theorem dX13_fillsDue_14 : decode cX13_fillsDue 14 = .ok (.aload_n 0, 1) := by decide +kernel
theorem dX13_fillsDue_15 : decode cX13_fillsDue 15 = .ok (.iload_n 3, 1) := by decide +kernel
theorem dX13_fillsDue_16 : decode cX13_fillsDue 16 = .ok (.iconst 3, 1) := by decide +kernel
theorem dX13_fillsDue_17 : decode cX13_fillsDue 17 = .ok (.invokevirtual 65, 3) := by decide +kernel
theorem dX13_fillsDue_20 : decode cX13_fillsDue 20 = .ok (.iload_n 1, 1) := by decide +kernel
theorem dX13_fillsDue_21 : decode cX13_fillsDue 21 = .ok (.if_icmp .gt 29, 3) := by decide +kernel
theorem dX13_fillsDue_24 : decode cX13_fillsDue 24 = .ok (.aload_n 0, 1) := by decide +kernel
theorem dX13_fillsDue_25 : decode cX13_fillsDue 25 = .ok (.iload_n 3, 1) := by decide +kernel
theorem dX13_fillsDue_26 : decode cX13_fillsDue 26 = .ok (.invokevirtual 156, 3) := by decide +kernel
theorem dX13_fillsDue_29 : decode cX13_fillsDue 29 = .ok (.ifCond .eq 15, 3) := by decide +kernel
theorem dX13_fillsDue_32 : decode cX13_fillsDue 32 = .ok (.aload_n 0, 1) := by decide +kernel
theorem dX13_fillsDue_33 : decode cX13_fillsDue 33 = .ok (.iload_n 3, 1) := by decide +kernel
theorem dX13_fillsDue_34 : decode cX13_fillsDue 34 = .ok (.invokevirtual 162, 3) := by decide +kernel
theorem dX13_fillsDue_37 : decode cX13_fillsDue 37 = .ok (.pop, 1) := by decide +kernel
theorem dX13_fillsDue_38 : decode cX13_fillsDue 38 = .ok (.iinc 2 1, 3) := by decide +kernel
theorem dX13_fillsDue_41 : decode cX13_fillsDue 41 = .ok (.goto (-37), 3) := by decide +kernel
theorem dX13_fillsDue_44 : decode cX13_fillsDue 44 = .ok (.iinc 3 1, 3) := by decide +kernel
theorem dX13_fillsDue_47 : decode cX13_fillsDue 47 = .ok (.goto (-43), 3) := by decide +kernel
theorem dX13_fillsDue_50 : decode cX13_fillsDue 50 = .ok (.iload_n 2, 1) := by decide +kernel
theorem dX13_fillsDue_51 : decode cX13_fillsDue 51 = .ok (.ireturn, 1) := by decide +kernel
theorem dX13_fillDue_0 : decode cX13_fillDue 0 = .ok (.aload_n 0, 1) := by decide +kernel
theorem dX13_fillDue_1 : decode cX13_fillDue 1 = .ok (.iconst 0, 1) := by decide +kernel
theorem dX13_fillDue_2 : decode cX13_fillDue 2 = .ok (.putfield 1, 3) := by decide +kernel
theorem dX13_fillDue_5 : decode cX13_fillDue 5 = .ok (.iload_n 1, 1) := by decide +kernel
theorem dX13_fillDue_6 : decode cX13_fillDue 6 = .ok (.invokestatic 165, 3) := by decide +kernel
theorem dX13_fillDue_9 : decode cX13_fillDue 9 = .ok (.ifCond .eq 9, 3) := by decide +kernel
theorem dX13_fillDue_12 : decode cX13_fillDue 12 = .ok (.aload_n 0, 1) := by decide +kernel
theorem dX13_fillDue_13 : decode cX13_fillDue 13 = .ok (.iconst 1, 1) := by decide +kernel
theorem dX13_fillDue_14 : decode cX13_fillDue 14 = .ok (.invokevirtual 79, 3) := by decide +kernel
theorem dX13_fillDue_17 : decode cX13_fillDue 17 = .ok (.ireturn, 1) := by decide +kernel
theorem dX13_fillDue_18 : decode cX13_fillDue 18 = .ok (.aload_n 0, 1) := by decide +kernel
theorem dX13_fillDue_19 : decode cX13_fillDue 19 = .ok (.invokevirtual 83, 3) := by decide +kernel
theorem dX13_fillDue_22 : decode cX13_fillDue 22 = .ok (.aload_n 0, 1) := by decide +kernel
theorem dX13_fillDue_23 : decode cX13_fillDue 23 = .ok (.iload_n 1, 1) := by decide +kernel
theorem dX13_fillDue_24 : decode cX13_fillDue 24 = .ok (.invokevirtual 168, 3) := by decide +kernel
theorem dX13_fillDue_27 : decode cX13_fillDue 27 = .ok (.ireturn, 1) := by decide +kernel
theorem dX13_sets_0 : decode cX13_sets 0 = .ok (.aload_n 0, 1) := by decide +kernel
theorem dX13_sets_1 : decode cX13_sets 1 = .ok (.getfield 13, 3) := by decide +kernel
theorem dX13_sets_4 : decode cX13_sets 4 = .ok (.iload_n 1, 1) := by decide +kernel
theorem dX13_sets_5 : decode cX13_sets 5 = .ok (.iaload, 1) := by decide +kernel
theorem dX13_sets_6 : decode cX13_sets 6 = .ok (.istore_n 3, 1) := by decide +kernel
theorem dX13_sets_7 : decode cX13_sets 7 = .ok (.aload_n 0, 1) := by decide +kernel
theorem dX13_sets_8 : decode cX13_sets 8 = .ok (.getfield 13, 3) := by decide +kernel
theorem dX13_sets_11 : decode cX13_sets 11 = .ok (.iload_n 1, 1) := by decide +kernel
theorem dX13_sets_12 : decode cX13_sets 12 = .ok (.iload_n 2, 1) := by decide +kernel
theorem dX13_sets_13 : decode cX13_sets 13 = .ok (.iastore, 1) := by decide +kernel
theorem dX13_sets_14 : decode cX13_sets 14 = .ok (.iload_n 3, 1) := by decide +kernel
theorem dX13_sets_15 : decode cX13_sets 15 = .ok (.ireturn, 1) := by decide +kernel
theorem dX13_notKerf_0 : decode cX13_notKerf 0 = .ok (.iload_n 0, 1) := by decide +kernel
theorem dX13_notKerf_1 : decode cX13_notKerf 1 = .ok (.iconst 0, 1) := by decide +kernel
theorem dX13_notKerf_2 : decode cX13_notKerf 2 = .ok (.iconst 5, 1) := by decide +kernel
theorem dX13_notKerf_3 : decode cX13_notKerf 3 = .ok (.invokestatic 57, 3) := by decide +kernel
theorem dX13_notKerf_6 : decode cX13_notKerf 6 = .ok (.ifCond .eq 7, 3) := by decide +kernel
theorem dX13_notKerf_9 : decode cX13_notKerf 9 = .ok (.iconst 0, 1) := by decide +kernel
theorem dX13_notKerf_10 : decode cX13_notKerf 10 = .ok (.goto 4, 3) := by decide +kernel
theorem dX13_notKerf_13 : decode cX13_notKerf 13 = .ok (.iconst 1, 1) := by decide +kernel
theorem dX13_notKerf_14 : decode cX13_notKerf 14 = .ok (.ireturn, 1) := by decide +kernel
theorem dX13_setKerf_0 : decode cX13_setKerf 0 = .ok (.aload_n 0, 1) := by decide +kernel
theorem dX13_setKerf_1 : decode cX13_setKerf 1 = .ok (.iconst 0, 1) := by decide +kernel
theorem dX13_setKerf_2 : decode cX13_setKerf 2 = .ok (.putfield 1, 3) := by decide +kernel
theorem dX13_setKerf_5 : decode cX13_setKerf 5 = .ok (.iload_n 1, 1) := by decide +kernel
theorem dX13_setKerf_6 : decode cX13_setKerf 6 = .ok (.invokestatic 171, 3) := by decide +kernel
theorem dX13_setKerf_9 : decode cX13_setKerf 9 = .ok (.ifCond .eq 9, 3) := by decide +kernel
theorem dX13_setKerf_12 : decode cX13_setKerf 12 = .ok (.aload_n 0, 1) := by decide +kernel
theorem dX13_setKerf_13 : decode cX13_setKerf 13 = .ok (.iconst 1, 1) := by decide +kernel
theorem dX13_setKerf_14 : decode cX13_setKerf 14 = .ok (.invokevirtual 79, 3) := by decide +kernel
theorem dX13_setKerf_17 : decode cX13_setKerf 17 = .ok (.ireturn, 1) := by decide +kernel
theorem dX13_setKerf_18 : decode cX13_setKerf 18 = .ok (.aload_n 0, 1) := by decide +kernel
theorem dX13_setKerf_19 : decode cX13_setKerf 19 = .ok (.invokevirtual 83, 3) := by decide +kernel
theorem dX13_setKerf_22 : decode cX13_setKerf 22 = .ok (.aload_n 0, 1) := by decide +kernel
theorem dX13_setKerf_23 : decode cX13_setKerf 23 = .ok (.iconst 5, 1) := by decide +kernel
theorem dX13_setKerf_24 : decode cX13_setKerf 24 = .ok (.iload_n 1, 1) := by decide +kernel
theorem dX13_setKerf_25 : decode cX13_setKerf 25 = .ok (.invokevirtual 174, 3) := by decide +kernel
theorem dX13_setKerf_28 : decode cX13_setKerf 28 = .ok (.ireturn, 1) := by decide +kernel
theorem dX13_notLimit_0 : decode cX13_notLimit 0 = .ok (.iload_n 0, 1) := by decide +kernel
theorem dX13_notLimit_1 : decode cX13_notLimit 1 = .ok (.iconst 1, 1) := by decide +kernel
theorem dX13_notLimit_2 : decode cX13_notLimit 2 = .ok (.bipush 50, 2) := by decide +kernel
theorem dX13_notLimit_4 : decode cX13_notLimit 4 = .ok (.invokestatic 57, 3) := by decide +kernel
theorem dX13_notLimit_7 : decode cX13_notLimit 7 = .ok (.ifCond .eq 7, 3) := by decide +kernel
theorem dX13_notLimit_10 : decode cX13_notLimit 10 = .ok (.iconst 0, 1) := by decide +kernel
theorem dX13_notLimit_11 : decode cX13_notLimit 11 = .ok (.goto 4, 3) := by decide +kernel
theorem dX13_notLimit_14 : decode cX13_notLimit 14 = .ok (.iconst 1, 1) := by decide +kernel
theorem dX13_notLimit_15 : decode cX13_notLimit 15 = .ok (.ireturn, 1) := by decide +kernel
theorem dX13_setScrapLimit_0 : decode cX13_setScrapLimit 0 = .ok (.aload_n 0, 1) := by decide +kernel
theorem dX13_setScrapLimit_1 : decode cX13_setScrapLimit 1 = .ok (.iconst 0, 1) := by decide +kernel
theorem dX13_setScrapLimit_2 : decode cX13_setScrapLimit 2 = .ok (.putfield 1, 3) := by decide +kernel
theorem dX13_setScrapLimit_5 : decode cX13_setScrapLimit 5 = .ok (.iload_n 1, 1) := by decide +kernel
theorem dX13_setScrapLimit_6 : decode cX13_setScrapLimit 6 = .ok (.invokestatic 177, 3) := by decide +kernel
theorem dX13_setScrapLimit_9 : decode cX13_setScrapLimit 9 = .ok (.ifCond .eq 9, 3) := by decide +kernel
theorem dX13_setScrapLimit_12 : decode cX13_setScrapLimit 12 = .ok (.aload_n 0, 1) := by decide +kernel
theorem dX13_setScrapLimit_13 : decode cX13_setScrapLimit 13 = .ok (.iconst 1, 1) := by decide +kernel
theorem dX13_setScrapLimit_14 : decode cX13_setScrapLimit 14 = .ok (.invokevirtual 79, 3) := by decide +kernel
theorem dX13_setScrapLimit_17 : decode cX13_setScrapLimit 17 = .ok (.ireturn, 1) := by decide +kernel
theorem dX13_setScrapLimit_18 : decode cX13_setScrapLimit 18 = .ok (.aload_n 0, 1) := by decide +kernel
theorem dX13_setScrapLimit_19 : decode cX13_setScrapLimit 19 = .ok (.invokevirtual 83, 3) := by decide +kernel
theorem dX13_setScrapLimit_22 : decode cX13_setScrapLimit 22 = .ok (.aload_n 0, 1) := by decide +kernel
theorem dX13_setScrapLimit_23 : decode cX13_setScrapLimit 23 = .ok (.bipush 6, 2) := by decide +kernel
theorem dX13_setScrapLimit_25 : decode cX13_setScrapLimit 25 = .ok (.iload_n 1, 1) := by decide +kernel
theorem dX13_setScrapLimit_26 : decode cX13_setScrapLimit 26 = .ok (.invokevirtual 174, 3) := by decide +kernel
theorem dX13_setScrapLimit_29 : decode cX13_setScrapLimit 29 = .ok (.ireturn, 1) := by decide +kernel
theorem dX13_notRule_0 : decode cX13_notRule 0 = .ok (.iload_n 0, 1) := by decide +kernel
theorem dX13_notRule_1 : decode cX13_notRule 1 = .ok (.bipush 98, 2) := by decide +kernel
theorem dX13_notRule_3 : decode cX13_notRule 3 = .ok (.if_icmp .eq 15, 3) := by decide +kernel
theorem dX13_notRule_6 : decode cX13_notRule 6 = .ok (.iload_n 0, 1) := by decide +kernel
theorem dX13_notRule_7 : decode cX13_notRule 7 = .ok (.bipush 119, 2) := by decide +kernel
theorem dX13_notRule_9 : decode cX13_notRule 9 = .ok (.if_icmp .eq 9, 3) := by decide +kernel
theorem dX13_notRule_12 : decode cX13_notRule 12 = .ok (.iload_n 0, 1) := by decide +kernel
theorem dX13_notRule_13 : decode cX13_notRule 13 = .ok (.bipush 102, 2) := by decide +kernel
theorem dX13_notRule_15 : decode cX13_notRule 15 = .ok (.if_icmp .ne 7, 3) := by decide +kernel
theorem dX13_notRule_18 : decode cX13_notRule 18 = .ok (.iconst 0, 1) := by decide +kernel
theorem dX13_notRule_19 : decode cX13_notRule 19 = .ok (.goto 4, 3) := by decide +kernel
theorem dX13_notRule_22 : decode cX13_notRule 22 = .ok (.iconst 1, 1) := by decide +kernel
theorem dX13_notRule_23 : decode cX13_notRule 23 = .ok (.ireturn, 1) := by decide +kernel
theorem dX13_setRule_0 : decode cX13_setRule 0 = .ok (.aload_n 0, 1) := by decide +kernel
theorem dX13_setRule_1 : decode cX13_setRule 1 = .ok (.iconst 0, 1) := by decide +kernel
theorem dX13_setRule_2 : decode cX13_setRule 2 = .ok (.putfield 1, 3) := by decide +kernel
theorem dX13_setRule_5 : decode cX13_setRule 5 = .ok (.iload_n 1, 1) := by decide +kernel
theorem dX13_setRule_6 : decode cX13_setRule 6 = .ok (.invokestatic 180, 3) := by decide +kernel
theorem dX13_setRule_9 : decode cX13_setRule 9 = .ok (.ifCond .eq 10, 3) := by decide +kernel
theorem dX13_setRule_12 : decode cX13_setRule 12 = .ok (.aload_n 0, 1) := by decide +kernel
theorem dX13_setRule_13 : decode cX13_setRule 13 = .ok (.iconst 1, 1) := by decide +kernel
theorem dX13_setRule_14 : decode cX13_setRule 14 = .ok (.invokevirtual 79, 3) := by decide +kernel
theorem dX13_setRule_17 : decode cX13_setRule 17 = .ok (.i2c, 1) := by decide +kernel
theorem dX13_setRule_18 : decode cX13_setRule 18 = .ok (.ireturn, 1) := by decide +kernel
theorem dX13_setRule_19 : decode cX13_setRule 19 = .ok (.aload_n 0, 1) := by decide +kernel
theorem dX13_setRule_20 : decode cX13_setRule 20 = .ok (.invokevirtual 83, 3) := by decide +kernel
theorem dX13_setRule_23 : decode cX13_setRule 23 = .ok (.aload_n 0, 1) := by decide +kernel
theorem dX13_setRule_24 : decode cX13_setRule 24 = .ok (.bipush 7, 2) := by decide +kernel
theorem dX13_setRule_26 : decode cX13_setRule 26 = .ok (.iload_n 1, 1) := by decide +kernel
theorem dX13_setRule_27 : decode cX13_setRule 27 = .ok (.invokevirtual 174, 3) := by decide +kernel
theorem dX13_setRule_30 : decode cX13_setRule 30 = .ok (.i2c, 1) := by decide +kernel
theorem dX13_setRule_31 : decode cX13_setRule 31 = .ok (.ireturn, 1) := by decide +kernel
theorem dX13_asks_0 : decode cX13_asks 0 = .ok (.aload_n 0, 1) := by decide +kernel
theorem dX13_asks_1 : decode cX13_asks 1 = .ok (.iconst 0, 1) := by decide +kernel
theorem dX13_asks_2 : decode cX13_asks 2 = .ok (.putfield 1, 3) := by decide +kernel
theorem dX13_asks_5 : decode cX13_asks 5 = .ok (.aload_n 0, 1) := by decide +kernel
theorem dX13_asks_6 : decode cX13_asks 6 = .ok (.getfield 13, 3) := by decide +kernel
theorem dX13_asks_9 : decode cX13_asks 9 = .ok (.iload_n 1, 1) := by decide +kernel
theorem dX13_asks_10 : decode cX13_asks 10 = .ok (.iaload, 1) := by decide +kernel
theorem dX13_asks_11 : decode cX13_asks 11 = .ok (.ireturn, 1) := by decide +kernel
theorem dX13_kerf_0 : decode cX13_kerf 0 = .ok (.aload_n 0, 1) := by decide +kernel
theorem dX13_kerf_1 : decode cX13_kerf 1 = .ok (.iconst 5, 1) := by decide +kernel
theorem dX13_kerf_2 : decode cX13_kerf 2 = .ok (.invokevirtual 183, 3) := by decide +kernel
theorem dX13_kerf_5 : decode cX13_kerf 5 = .ok (.ireturn, 1) := by decide +kernel
theorem dX13_scrapLimit_0 : decode cX13_scrapLimit 0 = .ok (.aload_n 0, 1) := by decide +kernel
theorem dX13_scrapLimit_1 : decode cX13_scrapLimit 1 = .ok (.bipush 6, 2) := by decide +kernel
theorem dX13_scrapLimit_3 : decode cX13_scrapLimit 3 = .ok (.invokevirtual 183, 3) := by decide +kernel
theorem dX13_scrapLimit_6 : decode cX13_scrapLimit 6 = .ok (.ireturn, 1) := by decide +kernel
theorem dX13_rule_0 : decode cX13_rule 0 = .ok (.aload_n 0, 1) := by decide +kernel
theorem dX13_rule_1 : decode cX13_rule 1 = .ok (.bipush 7, 2) := by decide +kernel
theorem dX13_rule_3 : decode cX13_rule 3 = .ok (.invokevirtual 183, 3) := by decide +kernel
theorem dX13_rule_6 : decode cX13_rule 6 = .ok (.i2c, 1) := by decide +kernel
theorem dX13_rule_7 : decode cX13_rule 7 = .ok (.ireturn, 1) := by decide +kernel
theorem dX13_spools_0 : decode cX13_spools 0 = .ok (.aload_n 0, 1) := by decide +kernel
theorem dX13_spools_1 : decode cX13_spools 1 = .ok (.iconst 0, 1) := by decide +kernel
theorem dX13_spools_2 : decode cX13_spools 2 = .ok (.invokevirtual 183, 3) := by decide +kernel
theorem dX13_spools_5 : decode cX13_spools 5 = .ok (.ireturn, 1) := by decide +kernel
theorem dX13_hasSpool_0 : decode cX13_hasSpool 0 = .ok (.aload_n 0, 1) := by decide +kernel
theorem dX13_hasSpool_1 : decode cX13_hasSpool 1 = .ok (.iconst 0, 1) := by decide +kernel
theorem dX13_hasSpool_2 : decode cX13_hasSpool 2 = .ok (.putfield 1, 3) := by decide +kernel
theorem dX13_hasSpool_5 : decode cX13_hasSpool 5 = .ok (.aload_n 0, 1) := by decide +kernel
theorem dX13_hasSpool_6 : decode cX13_hasSpool 6 = .ok (.iload_n 1, 1) := by decide +kernel
theorem dX13_hasSpool_7 : decode cX13_hasSpool 7 = .ok (.invokevirtual 89, 3) := by decide +kernel
theorem dX13_hasSpool_10 : decode cX13_hasSpool 10 = .ok (.ifCond .lt 7, 3) := by decide +kernel
theorem dX13_hasSpool_13 : decode cX13_hasSpool 13 = .ok (.iconst 1, 1) := by decide +kernel
theorem dX13_hasSpool_14 : decode cX13_hasSpool 14 = .ok (.goto 4, 3) := by decide +kernel
theorem dX13_hasSpool_17 : decode cX13_hasSpool 17 = .ok (.iconst 0, 1) := by decide +kernel
theorem dX13_hasSpool_18 : decode cX13_hasSpool 18 = .ok (.ireturn, 1) := by decide +kernel
theorem dX13_asksSpool_0 : decode cX13_asksSpool 0 = .ok (.aload_n 0, 1) := by decide +kernel
theorem dX13_asksSpool_1 : decode cX13_asksSpool 1 = .ok (.iconst 0, 1) := by decide +kernel
theorem dX13_asksSpool_2 : decode cX13_asksSpool 2 = .ok (.putfield 1, 3) := by decide +kernel
theorem dX13_asksSpool_5 : decode cX13_asksSpool 5 = .ok (.aload_n 0, 1) := by decide +kernel
theorem dX13_asksSpool_6 : decode cX13_asksSpool 6 = .ok (.iload_n 1, 1) := by decide +kernel
theorem dX13_asksSpool_7 : decode cX13_asksSpool 7 = .ok (.invokevirtual 89, 3) := by decide +kernel
theorem dX13_asksSpool_10 : decode cX13_asksSpool 10 = .ok (.ifCond .ge 11, 3) := by decide +kernel
theorem dX13_asksSpool_13 : decode cX13_asksSpool 13 = .ok (.aload_n 0, 1) := by decide +kernel
theorem dX13_asksSpool_14 : decode cX13_asksSpool 14 = .ok (.iconst 1, 1) := by decide +kernel
theorem dX13_asksSpool_15 : decode cX13_asksSpool 15 = .ok (.invokevirtual 79, 3) := by decide +kernel
theorem dX13_asksSpool_18 : decode cX13_asksSpool 18 = .ok (.goto 13, 3) := by decide +kernel
theorem dX13_asksSpool_21 : decode cX13_asksSpool 21 = .ok (.aload_n 0, 1) := by decide +kernel
theorem dX13_asksSpool_22 : decode cX13_asksSpool 22 = .ok (.aload_n 0, 1) := by decide +kernel
theorem dX13_asksSpool_23 : decode cX13_asksSpool 23 = .ok (.iload_n 1, 1) := by decide +kernel
theorem dX13_asksSpool_24 : decode cX13_asksSpool 24 = .ok (.invokevirtual 89, 3) := by decide +kernel
theorem dX13_asksSpool_27 : decode cX13_asksSpool 27 = .ok (.iload_n 2, 1) := by decide +kernel
theorem dX13_asksSpool_28 : decode cX13_asksSpool 28 = .ok (.invokevirtual 61, 3) := by decide +kernel
theorem dX13_asksSpool_31 : decode cX13_asksSpool 31 = .ok (.ireturn, 1) := by decide +kernel
theorem dX13_material_0 : decode cX13_material 0 = .ok (.aload_n 0, 1) := by decide +kernel
theorem dX13_material_1 : decode cX13_material 1 = .ok (.iload_n 1, 1) := by decide +kernel
theorem dX13_material_2 : decode cX13_material 2 = .ok (.iconst 1, 1) := by decide +kernel
theorem dX13_material_3 : decode cX13_material 3 = .ok (.invokevirtual 186, 3) := by decide +kernel
theorem dX13_material_6 : decode cX13_material 6 = .ok (.istore_n 2, 1) := by decide +kernel
theorem dX13_material_7 : decode cX13_material 7 = .ok (.aload_n 0, 1) := by decide +kernel
theorem dX13_material_8 : decode cX13_material 8 = .ok (.getfield 1, 3) := by decide +kernel
theorem dX13_material_11 : decode cX13_material 11 = .ok (.ifCond .eq 5, 3) := by decide +kernel
theorem dX13_material_14 : decode cX13_material 14 = .ok (.iconst 0, 1) := by decide +kernel
theorem dX13_material_15 : decode cX13_material 15 = .ok (.ireturn, 1) := by decide +kernel
theorem dX13_material_16 : decode cX13_material 16 = .ok (.bipush 97, 2) := by decide +kernel
theorem dX13_material_18 : decode cX13_material 18 = .ok (.iload_n 2, 1) := by decide +kernel
theorem dX13_material_19 : decode cX13_material 19 = .ok (.iadd, 1) := by decide +kernel
theorem dX13_material_20 : decode cX13_material 20 = .ok (.i2c, 1) := by decide +kernel
theorem dX13_material_21 : decode cX13_material 21 = .ok (.ireturn, 1) := by decide +kernel
theorem dX13_remaining_0 : decode cX13_remaining 0 = .ok (.aload_n 0, 1) := by decide +kernel
theorem dX13_remaining_1 : decode cX13_remaining 1 = .ok (.iload_n 1, 1) := by decide +kernel
theorem dX13_remaining_2 : decode cX13_remaining 2 = .ok (.iconst 2, 1) := by decide +kernel
theorem dX13_remaining_3 : decode cX13_remaining 3 = .ok (.invokevirtual 186, 3) := by decide +kernel
theorem dX13_remaining_6 : decode cX13_remaining 6 = .ok (.ireturn, 1) := by decide +kernel
theorem dX13_cuts_0 : decode cX13_cuts 0 = .ok (.aload_n 0, 1) := by decide +kernel
theorem dX13_cuts_1 : decode cX13_cuts 1 = .ok (.iload_n 1, 1) := by decide +kernel
theorem dX13_cuts_2 : decode cX13_cuts 2 = .ok (.iconst 3, 1) := by decide +kernel
theorem dX13_cuts_3 : decode cX13_cuts 3 = .ok (.invokevirtual 186, 3) := by decide +kernel
theorem dX13_cuts_6 : decode cX13_cuts 6 = .ok (.ireturn, 1) := by decide +kernel
theorem dX13_isAhead_0 : decode cX13_isAhead 0 = .ok (.aload_n 0, 1) := by decide +kernel
theorem dX13_isAhead_1 : decode cX13_isAhead 1 = .ok (.iload_n 1, 1) := by decide +kernel
theorem dX13_isAhead_2 : decode cX13_isAhead 2 = .ok (.iconst 2, 1) := by decide +kernel
theorem dX13_isAhead_3 : decode cX13_isAhead 3 = .ok (.invokevirtual 61, 3) := by decide +kernel
theorem dX13_isAhead_6 : decode cX13_isAhead 6 = .ok (.aload_n 0, 1) := by decide +kernel
theorem dX13_isAhead_7 : decode cX13_isAhead 7 = .ok (.iload_n 2, 1) := by decide +kernel
theorem dX13_isAhead_8 : decode cX13_isAhead 8 = .ok (.iconst 2, 1) := by decide +kernel
theorem dX13_isAhead_9 : decode cX13_isAhead 9 = .ok (.invokevirtual 61, 3) := by decide +kernel
theorem dX13_isAhead_12 : decode cX13_isAhead 12 = .ok (.isub, 1) := by decide +kernel
theorem dX13_isAhead_13 : decode cX13_isAhead 13 = .ok (.istore_n 3, 1) := by decide +kernel
theorem dX13_isAhead_14 : decode cX13_isAhead 14 = .ok (.aload_n 0, 1) := by decide +kernel
theorem dX13_isAhead_15 : decode cX13_isAhead 15 = .ok (.iload_n 2, 1) := by decide +kernel
theorem dX13_isAhead_16 : decode cX13_isAhead 16 = .ok (.iconst 1, 1) := by decide +kernel
theorem dX13_isAhead_17 : decode cX13_isAhead 17 = .ok (.invokevirtual 61, 3) := by decide +kernel
theorem dX13_isAhead_20 : decode cX13_isAhead 20 = .ok (.aload_n 0, 1) := by decide +kernel
theorem dX13_isAhead_21 : decode cX13_isAhead 21 = .ok (.iload_n 1, 1) := by decide +kernel
theorem dX13_isAhead_22 : decode cX13_isAhead 22 = .ok (.iconst 1, 1) := by decide +kernel
theorem dX13_isAhead_23 : decode cX13_isAhead 23 = .ok (.invokevirtual 61, 3) := by decide +kernel
theorem dX13_isAhead_26 : decode cX13_isAhead 26 = .ok (.isub, 1) := by decide +kernel
theorem dX13_isAhead_27 : decode cX13_isAhead 27 = .ok (.istore 4, 2) := by decide +kernel
theorem dX13_isAhead_29 : decode cX13_isAhead 29 = .ok (.iload_n 3, 1) := by decide +kernel
theorem dX13_isAhead_30 : decode cX13_isAhead 30 = .ok (.ifCond .eq 13, 3) := by decide +kernel
theorem dX13_isAhead_33 : decode cX13_isAhead 33 = .ok (.iload_n 3, 1) := by decide +kernel
theorem dX13_isAhead_34 : decode cX13_isAhead 34 = .ok (.ifCond .le 7, 3) := by decide +kernel
theorem dX13_isAhead_37 : decode cX13_isAhead 37 = .ok (.iconst 1, 1) := by decide +kernel
theorem dX13_isAhead_38 : decode cX13_isAhead 38 = .ok (.goto 4, 3) := by decide +kernel
theorem dX13_isAhead_41 : decode cX13_isAhead 41 = .ok (.iconst 0, 1) := by decide +kernel
theorem dX13_isAhead_42 : decode cX13_isAhead 42 = .ok (.ireturn, 1) := by decide +kernel
theorem dX13_isAhead_43 : decode cX13_isAhead 43 = .ok (.iload 4, 2) := by decide +kernel
theorem dX13_isAhead_45 : decode cX13_isAhead 45 = .ok (.ifCond .eq 16, 3) := by decide +kernel
theorem dX13_isAhead_48 : decode cX13_isAhead 48 = .ok (.iload 4, 2) := by decide +kernel
theorem dX13_isAhead_50 : decode cX13_isAhead 50 = .ok (.ifCond .le 7, 3) := by decide +kernel
theorem dX13_isAhead_53 : decode cX13_isAhead 53 = .ok (.iconst 1, 1) := by decide +kernel
theorem dX13_isAhead_54 : decode cX13_isAhead 54 = .ok (.goto 17, 3) := by decide +kernel
theorem dX13_isAhead_57 : decode cX13_isAhead 57 = .ok (.iconst 0, 1) := by decide +kernel
theorem dX13_isAhead_58 : decode cX13_isAhead 58 = .ok (.goto 13, 3) := by decide +kernel
theorem dX13_isAhead_61 : decode cX13_isAhead 61 = .ok (.iload_n 1, 1) := by decide +kernel
theorem dX13_isAhead_62 : decode cX13_isAhead 62 = .ok (.iload_n 2, 1) := by decide +kernel
theorem dX13_isAhead_63 : decode cX13_isAhead 63 = .ok (.if_icmp .ge 7, 3) := by decide +kernel
theorem dX13_isAhead_66 : decode cX13_isAhead 66 = .ok (.iconst 1, 1) := by decide +kernel
theorem dX13_isAhead_67 : decode cX13_isAhead 67 = .ok (.goto 4, 3) := by decide +kernel
theorem dX13_isAhead_70 : decode cX13_isAhead 70 = .ok (.iconst 0, 1) := by decide +kernel
theorem dX13_isAhead_71 : decode cX13_isAhead 71 = .ok (.ireturn, 1) := by decide +kernel
theorem dX13_spoolByLength_0 : decode cX13_spoolByLength 0 = .ok (.aload_n 0, 1) := by decide +kernel
theorem dX13_spoolByLength_1 : decode cX13_spoolByLength 1 = .ok (.iconst 0, 1) := by decide +kernel
theorem dX13_spoolByLength_2 : decode cX13_spoolByLength 2 = .ok (.putfield 1, 3) := by decide +kernel
theorem dX13_spoolByLength_5 : decode cX13_spoolByLength 5 = .ok (.iconst 0, 1) := by decide +kernel
theorem dX13_spoolByLength_6 : decode cX13_spoolByLength 6 = .ok (.istore_n 2, 1) := by decide +kernel
theorem dX13_spoolByLength_7 : decode cX13_spoolByLength 7 = .ok (.iload_n 2, 1) := by decide +kernel
theorem dX13_spoolByLength_8 : decode cX13_spoolByLength 8 = .ok (.aload_n 0, 1) := by decide +kernel
theorem dX13_spoolByLength_9 : decode cX13_spoolByLength 9 = .ok (.getfield 13, 3) := by decide +kernel
theorem dX13_spoolByLength_12 : decode cX13_spoolByLength 12 = .ok (.iconst 0, 1) := by decide +kernel
theorem dX13_spoolByLength_13 : decode cX13_spoolByLength 13 = .ok (.iaload, 1) := by decide +kernel
theorem dX13_spoolByLength_14 : decode cX13_spoolByLength 14 = .ok (.if_icmp .ge 61, 3) := by decide +kernel
theorem dX13_spoolByLength_17 : decode cX13_spoolByLength 17 = .ok (.iconst 0, 1) := by decide +kernel
theorem dX13_spoolByLength_18 : decode cX13_spoolByLength 18 = .ok (.istore_n 3, 1) := by decide +kernel
theorem dX13_spoolByLength_19 : decode cX13_spoolByLength 19 = .ok (.iconst 0, 1) := by decide +kernel
theorem dX13_spoolByLength_20 : decode cX13_spoolByLength 20 = .ok (.istore 4, 2) := by decide +kernel
theorem dX13_spoolByLength_22 : decode cX13_spoolByLength 22 = .ok (.iload 4, 2) := by decide +kernel
theorem dX13_spoolByLength_24 : decode cX13_spoolByLength 24 = .ok (.aload_n 0, 1) := by decide +kernel
theorem dX13_spoolByLength_25 : decode cX13_spoolByLength 25 = .ok (.getfield 13, 3) := by decide +kernel
theorem dX13_spoolByLength_28 : decode cX13_spoolByLength 28 = .ok (.iconst 0, 1) := by decide +kernel
theorem dX13_spoolByLength_29 : decode cX13_spoolByLength 29 = .ok (.iaload, 1) := by decide +kernel
theorem dX13_spoolByLength_30 : decode cX13_spoolByLength 30 = .ok (.if_icmp .ge 27, 3) := by decide +kernel
theorem dX13_spoolByLength_33 : decode cX13_spoolByLength 33 = .ok (.iload_n 3, 1) := by decide +kernel
theorem dX13_spoolByLength_34 : decode cX13_spoolByLength 34 = .ok (.aload_n 0, 1) := by decide +kernel
theorem dX13_spoolByLength_35 : decode cX13_spoolByLength 35 = .ok (.iload 4, 2) := by decide +kernel
theorem dX13_spoolByLength_37 : decode cX13_spoolByLength 37 = .ok (.iload_n 2, 1) := by decide +kernel
theorem dX13_spoolByLength_38 : decode cX13_spoolByLength 38 = .ok (.invokevirtual 189, 3) := by decide +kernel
theorem dX13_spoolByLength_41 : decode cX13_spoolByLength 41 = .ok (.ifCond .eq 7, 3) := by decide +kernel
theorem dX13_spoolByLength_44 : decode cX13_spoolByLength 44 = .ok (.iconst 1, 1) := by decide +kernel
theorem dX13_spoolByLength_45 : decode cX13_spoolByLength 45 = .ok (.goto 4, 3) := by decide +kernel
theorem dX13_spoolByLength_48 : decode cX13_spoolByLength 48 = .ok (.iconst 0, 1) := by decide +kernel
theorem dX13_spoolByLength_49 : decode cX13_spoolByLength 49 = .ok (.iadd, 1) := by decide +kernel
theorem dX13_spoolByLength_50 : decode cX13_spoolByLength 50 = .ok (.istore_n 3, 1) := by decide +kernel
theorem dX13_spoolByLength_51 : decode cX13_spoolByLength 51 = .ok (.iinc 4 1, 3) := by decide +kernel
theorem dX13_spoolByLength_54 : decode cX13_spoolByLength 54 = .ok (.goto (-32), 3) := by decide +kernel
theorem dX13_spoolByLength_57 : decode cX13_spoolByLength 57 = .ok (.iload_n 3, 1) := by decide +kernel
theorem dX13_spoolByLength_58 : decode cX13_spoolByLength 58 = .ok (.iload_n 1, 1) := by decide +kernel
theorem dX13_spoolByLength_59 : decode cX13_spoolByLength 59 = .ok (.if_icmp .ne 10, 3) := by decide +kernel
theorem dX13_spoolByLength_62 : decode cX13_spoolByLength 62 = .ok (.aload_n 0, 1) := by decide +kernel
theorem dX13_spoolByLength_63 : decode cX13_spoolByLength 63 = .ok (.iload_n 2, 1) := by decide +kernel
theorem dX13_spoolByLength_64 : decode cX13_spoolByLength 64 = .ok (.iconst 0, 1) := by decide +kernel
theorem dX13_spoolByLength_65 : decode cX13_spoolByLength 65 = .ok (.invokevirtual 61, 3) := by decide +kernel
theorem dX13_spoolByLength_68 : decode cX13_spoolByLength 68 = .ok (.ireturn, 1) := by decide +kernel
theorem dX13_spoolByLength_69 : decode cX13_spoolByLength 69 = .ok (.iinc 2 1, 3) := by decide +kernel
theorem dX13_spoolByLength_72 : decode cX13_spoolByLength 72 = .ok (.goto (-65), 3) := by decide +kernel
theorem dX13_spoolByLength_75 : decode cX13_spoolByLength 75 = .ok (.aload_n 0, 1) := by decide +kernel
theorem dX13_spoolByLength_76 : decode cX13_spoolByLength 76 = .ok (.iconst 1, 1) := by decide +kernel
theorem dX13_spoolByLength_77 : decode cX13_spoolByLength 77 = .ok (.invokevirtual 79, 3) := by decide +kernel
theorem dX13_spoolByLength_80 : decode cX13_spoolByLength 80 = .ok (.ireturn, 1) := by decide +kernel
theorem dX13_scraps_0 : decode cX13_scraps 0 = .ok (.aload_n 0, 1) := by decide +kernel
theorem dX13_scraps_1 : decode cX13_scraps 1 = .ok (.iconst 0, 1) := by decide +kernel
theorem dX13_scraps_2 : decode cX13_scraps 2 = .ok (.putfield 1, 3) := by decide +kernel
theorem dX13_scraps_5 : decode cX13_scraps 5 = .ok (.iload_n 1, 1) := by decide +kernel
theorem dX13_scraps_6 : decode cX13_scraps 6 = .ok (.invokestatic 72, 3) := by decide +kernel
theorem dX13_scraps_9 : decode cX13_scraps 9 = .ok (.ifCond .ne 9, 3) := by decide +kernel
theorem dX13_scraps_12 : decode cX13_scraps 12 = .ok (.aload_n 0, 1) := by decide +kernel
theorem dX13_scraps_13 : decode cX13_scraps 13 = .ok (.iconst 1, 1) := by decide +kernel
theorem dX13_scraps_14 : decode cX13_scraps 14 = .ok (.invokevirtual 79, 3) := by decide +kernel
theorem dX13_scraps_17 : decode cX13_scraps 17 = .ok (.ireturn, 1) := by decide +kernel
theorem dX13_scraps_18 : decode cX13_scraps 18 = .ok (.iconst 0, 1) := by decide +kernel
theorem dX13_scraps_19 : decode cX13_scraps 19 = .ok (.istore_n 2, 1) := by decide +kernel
theorem dX13_scraps_20 : decode cX13_scraps 20 = .ok (.iconst 0, 1) := by decide +kernel
theorem dX13_scraps_21 : decode cX13_scraps 21 = .ok (.istore_n 3, 1) := by decide +kernel
theorem dX13_scraps_22 : decode cX13_scraps 22 = .ok (.iload_n 3, 1) := by decide +kernel
theorem dX13_scraps_23 : decode cX13_scraps 23 = .ok (.aload_n 0, 1) := by decide +kernel
theorem dX13_scraps_24 : decode cX13_scraps 24 = .ok (.getfield 13, 3) := by decide +kernel
theorem dX13_scraps_27 : decode cX13_scraps 27 = .ok (.iconst 4, 1) := by decide +kernel
theorem dX13_scraps_28 : decode cX13_scraps 28 = .ok (.iaload, 1) := by decide +kernel
theorem dX13_scraps_29 : decode cX13_scraps 29 = .ok (.if_icmp .ge 30, 3) := by decide +kernel
theorem dX13_scraps_32 : decode cX13_scraps 32 = .ok (.iload_n 2, 1) := by decide +kernel
theorem dX13_scraps_33 : decode cX13_scraps 33 = .ok (.aload_n 0, 1) := by decide +kernel
theorem dX13_scraps_34 : decode cX13_scraps 34 = .ok (.iload_n 3, 1) := by decide +kernel
theorem dX13_scraps_35 : decode cX13_scraps 35 = .ok (.iconst 0, 1) := by decide +kernel
theorem dX13_scraps_36 : decode cX13_scraps 36 = .ok (.invokevirtual 106, 3) := by decide +kernel
theorem dX13_scraps_39 : decode cX13_scraps 39 = .ok (.iload_n 1, 1) := by decide +kernel
theorem dX13_scraps_40 : decode cX13_scraps 40 = .ok (.bipush 97, 2) := by decide +kernel
theorem dX13_scraps_42 : decode cX13_scraps 42 = .ok (.isub, 1) := by decide +kernel
theorem dX13_scraps_43 : decode cX13_scraps 43 = .ok (.if_icmp .ne 7, 3) := by decide +kernel
theorem dX13_scraps_46 : decode cX13_scraps 46 = .ok (.iconst 1, 1) := by decide +kernel
theorem dX13_scraps_47 : decode cX13_scraps 47 = .ok (.goto 4, 3) := by decide +kernel
theorem dX13_scraps_50 : decode cX13_scraps 50 = .ok (.iconst 0, 1) := by decide +kernel
theorem dX13_scraps_51 : decode cX13_scraps 51 = .ok (.iadd, 1) := by decide +kernel
theorem dX13_scraps_52 : decode cX13_scraps 52 = .ok (.istore_n 2, 1) := by decide +kernel
theorem dX13_scraps_53 : decode cX13_scraps 53 = .ok (.iinc 3 1, 3) := by decide +kernel
theorem dX13_scraps_56 : decode cX13_scraps 56 = .ok (.goto (-34), 3) := by decide +kernel
theorem dX13_scraps_59 : decode cX13_scraps 59 = .ok (.iload_n 2, 1) := by decide +kernel
theorem dX13_scraps_60 : decode cX13_scraps 60 = .ok (.ireturn, 1) := by decide +kernel
theorem dX13_scrapsAhead_0 : decode cX13_scrapsAhead 0 = .ok (.iconst 0, 1) := by decide +kernel
theorem dX13_scrapsAhead_1 : decode cX13_scrapsAhead 1 = .ok (.istore_n 2, 1) := by decide +kernel
theorem dX13_scrapsAhead_2 : decode cX13_scrapsAhead 2 = .ok (.iconst 0, 1) := by decide +kernel
theorem dX13_scrapsAhead_3 : decode cX13_scrapsAhead 3 = .ok (.istore_n 3, 1) := by decide +kernel
theorem dX13_scrapsAhead_4 : decode cX13_scrapsAhead 4 = .ok (.iload_n 3, 1) := by decide +kernel
theorem dX13_scrapsAhead_5 : decode cX13_scrapsAhead 5 = .ok (.aload_n 0, 1) := by decide +kernel
theorem dX13_scrapsAhead_6 : decode cX13_scrapsAhead 6 = .ok (.getfield 13, 3) := by decide +kernel
theorem dX13_scrapsAhead_9 : decode cX13_scrapsAhead 9 = .ok (.iconst 4, 1) := by decide +kernel
theorem dX13_scrapsAhead_10 : decode cX13_scrapsAhead 10 = .ok (.iaload, 1) := by decide +kernel
theorem dX13_scrapsAhead_11 : decode cX13_scrapsAhead 11 = .ok (.if_icmp .ge 65, 3) := by decide +kernel
theorem dX13_scrapsAhead_14 : decode cX13_scrapsAhead 14 = .ok (.aload_n 0, 1) := by decide +kernel
theorem dX13_scrapsAhead_15 : decode cX13_scrapsAhead 15 = .ok (.iload_n 3, 1) := by decide +kernel
theorem dX13_scrapsAhead_16 : decode cX13_scrapsAhead 16 = .ok (.iconst 0, 1) := by decide +kernel
theorem dX13_scrapsAhead_17 : decode cX13_scrapsAhead 17 = .ok (.invokevirtual 106, 3) := by decide +kernel
theorem dX13_scrapsAhead_20 : decode cX13_scrapsAhead 20 = .ok (.aload_n 0, 1) := by decide +kernel
theorem dX13_scrapsAhead_21 : decode cX13_scrapsAhead 21 = .ok (.iload_n 1, 1) := by decide +kernel
theorem dX13_scrapsAhead_22 : decode cX13_scrapsAhead 22 = .ok (.iconst 0, 1) := by decide +kernel
theorem dX13_scrapsAhead_23 : decode cX13_scrapsAhead 23 = .ok (.invokevirtual 106, 3) := by decide +kernel
theorem dX13_scrapsAhead_26 : decode cX13_scrapsAhead 26 = .ok (.if_icmp .eq 6, 3) := by decide +kernel
theorem dX13_scrapsAhead_29 : decode cX13_scrapsAhead 29 = .ok (.goto 41, 3) := by decide +kernel
theorem dX13_scrapsAhead_32 : decode cX13_scrapsAhead 32 = .ok (.aload_n 0, 1) := by decide +kernel
theorem dX13_scrapsAhead_33 : decode cX13_scrapsAhead 33 = .ok (.iload_n 1, 1) := by decide +kernel
theorem dX13_scrapsAhead_34 : decode cX13_scrapsAhead 34 = .ok (.iconst 1, 1) := by decide +kernel
theorem dX13_scrapsAhead_35 : decode cX13_scrapsAhead 35 = .ok (.invokevirtual 106, 3) := by decide +kernel
theorem dX13_scrapsAhead_38 : decode cX13_scrapsAhead 38 = .ok (.aload_n 0, 1) := by decide +kernel
theorem dX13_scrapsAhead_39 : decode cX13_scrapsAhead 39 = .ok (.iload_n 3, 1) := by decide +kernel
theorem dX13_scrapsAhead_40 : decode cX13_scrapsAhead 40 = .ok (.iconst 1, 1) := by decide +kernel
theorem dX13_scrapsAhead_41 : decode cX13_scrapsAhead 41 = .ok (.invokevirtual 106, 3) := by decide +kernel
theorem dX13_scrapsAhead_44 : decode cX13_scrapsAhead 44 = .ok (.isub, 1) := by decide +kernel
theorem dX13_scrapsAhead_45 : decode cX13_scrapsAhead 45 = .ok (.istore 4, 2) := by decide +kernel
theorem dX13_scrapsAhead_47 : decode cX13_scrapsAhead 47 = .ok (.iload_n 2, 1) := by decide +kernel
theorem dX13_scrapsAhead_48 : decode cX13_scrapsAhead 48 = .ok (.iload 4, 2) := by decide +kernel
theorem dX13_scrapsAhead_50 : decode cX13_scrapsAhead 50 = .ok (.ifCond .gt 13, 3) := by decide +kernel
theorem dX13_scrapsAhead_53 : decode cX13_scrapsAhead 53 = .ok (.iload 4, 2) := by decide +kernel
theorem dX13_scrapsAhead_55 : decode cX13_scrapsAhead 55 = .ok (.ifCond .ne 12, 3) := by decide +kernel
theorem dX13_scrapsAhead_58 : decode cX13_scrapsAhead 58 = .ok (.iload_n 3, 1) := by decide +kernel
theorem dX13_scrapsAhead_59 : decode cX13_scrapsAhead 59 = .ok (.iload_n 1, 1) := by decide +kernel
theorem dX13_scrapsAhead_60 : decode cX13_scrapsAhead 60 = .ok (.if_icmp .ge 7, 3) := by decide +kernel
theorem dX13_scrapsAhead_63 : decode cX13_scrapsAhead 63 = .ok (.iconst 1, 1) := by decide +kernel
theorem dX13_scrapsAhead_64 : decode cX13_scrapsAhead 64 = .ok (.goto 4, 3) := by decide +kernel
theorem dX13_scrapsAhead_67 : decode cX13_scrapsAhead 67 = .ok (.iconst 0, 1) := by decide +kernel
theorem dX13_scrapsAhead_68 : decode cX13_scrapsAhead 68 = .ok (.iadd, 1) := by decide +kernel
theorem dX13_scrapsAhead_69 : decode cX13_scrapsAhead 69 = .ok (.istore_n 2, 1) := by decide +kernel
theorem dX13_scrapsAhead_70 : decode cX13_scrapsAhead 70 = .ok (.iinc 3 1, 3) := by decide +kernel
theorem dX13_scrapsAhead_73 : decode cX13_scrapsAhead 73 = .ok (.goto (-69), 3) := by decide +kernel
theorem dX13_scrapsAhead_76 : decode cX13_scrapsAhead 76 = .ok (.iload_n 2, 1) := by decide +kernel
theorem dX13_scrapsAhead_77 : decode cX13_scrapsAhead 77 = .ok (.ireturn, 1) := by decide +kernel
theorem dX13_scrap_0 : decode cX13_scrap 0 = .ok (.aload_n 0, 1) := by decide +kernel
theorem dX13_scrap_1 : decode cX13_scrap 1 = .ok (.iconst 0, 1) := by decide +kernel
theorem dX13_scrap_2 : decode cX13_scrap 2 = .ok (.putfield 1, 3) := by decide +kernel
theorem dX13_scrap_5 : decode cX13_scrap 5 = .ok (.iload_n 1, 1) := by decide +kernel
theorem dX13_scrap_6 : decode cX13_scrap 6 = .ok (.invokestatic 72, 3) := by decide +kernel
theorem dX13_scrap_9 : decode cX13_scrap 9 = .ok (.ifCond .ne 9, 3) := by decide +kernel
theorem dX13_scrap_12 : decode cX13_scrap 12 = .ok (.aload_n 0, 1) := by decide +kernel
theorem dX13_scrap_13 : decode cX13_scrap 13 = .ok (.iconst 1, 1) := by decide +kernel
theorem dX13_scrap_14 : decode cX13_scrap 14 = .ok (.invokevirtual 79, 3) := by decide +kernel
theorem dX13_scrap_17 : decode cX13_scrap 17 = .ok (.ireturn, 1) := by decide +kernel
theorem dX13_scrap_18 : decode cX13_scrap 18 = .ok (.iconst 0, 1) := by decide +kernel
theorem dX13_scrap_19 : decode cX13_scrap 19 = .ok (.istore_n 3, 1) := by decide +kernel
theorem dX13_scrap_20 : decode cX13_scrap 20 = .ok (.iload_n 3, 1) := by decide +kernel
theorem dX13_scrap_21 : decode cX13_scrap 21 = .ok (.aload_n 0, 1) := by decide +kernel
theorem dX13_scrap_22 : decode cX13_scrap 22 = .ok (.getfield 13, 3) := by decide +kernel
theorem dX13_scrap_25 : decode cX13_scrap 25 = .ok (.iconst 4, 1) := by decide +kernel
theorem dX13_scrap_26 : decode cX13_scrap 26 = .ok (.iaload, 1) := by decide +kernel
theorem dX13_scrap_27 : decode cX13_scrap 27 = .ok (.if_icmp .ge 38, 3) := by decide +kernel
theorem dX13_scrap_30 : decode cX13_scrap 30 = .ok (.aload_n 0, 1) := by decide +kernel
theorem dX13_scrap_31 : decode cX13_scrap 31 = .ok (.iload_n 3, 1) := by decide +kernel
theorem dX13_scrap_32 : decode cX13_scrap 32 = .ok (.iconst 0, 1) := by decide +kernel
theorem dX13_scrap_33 : decode cX13_scrap 33 = .ok (.invokevirtual 106, 3) := by decide +kernel
theorem dX13_scrap_36 : decode cX13_scrap 36 = .ok (.iload_n 1, 1) := by decide +kernel
theorem dX13_scrap_37 : decode cX13_scrap 37 = .ok (.bipush 97, 2) := by decide +kernel
theorem dX13_scrap_39 : decode cX13_scrap 39 = .ok (.isub, 1) := by decide +kernel
theorem dX13_scrap_40 : decode cX13_scrap 40 = .ok (.if_icmp .ne 19, 3) := by decide +kernel
theorem dX13_scrap_43 : decode cX13_scrap 43 = .ok (.aload_n 0, 1) := by decide +kernel
theorem dX13_scrap_44 : decode cX13_scrap 44 = .ok (.iload_n 3, 1) := by decide +kernel
theorem dX13_scrap_45 : decode cX13_scrap 45 = .ok (.invokevirtual 192, 3) := by decide +kernel
theorem dX13_scrap_48 : decode cX13_scrap 48 = .ok (.iload_n 2, 1) := by decide +kernel
theorem dX13_scrap_49 : decode cX13_scrap 49 = .ok (.if_icmp .ne 10, 3) := by decide +kernel
theorem dX13_scrap_52 : decode cX13_scrap 52 = .ok (.aload_n 0, 1) := by decide +kernel
theorem dX13_scrap_53 : decode cX13_scrap 53 = .ok (.iload_n 3, 1) := by decide +kernel
theorem dX13_scrap_54 : decode cX13_scrap 54 = .ok (.iconst 1, 1) := by decide +kernel
theorem dX13_scrap_55 : decode cX13_scrap 55 = .ok (.invokevirtual 106, 3) := by decide +kernel
theorem dX13_scrap_58 : decode cX13_scrap 58 = .ok (.ireturn, 1) := by decide +kernel
theorem dX13_scrap_59 : decode cX13_scrap 59 = .ok (.iinc 3 1, 3) := by decide +kernel
theorem dX13_scrap_62 : decode cX13_scrap 62 = .ok (.goto (-42), 3) := by decide +kernel
theorem dX13_scrap_65 : decode cX13_scrap 65 = .ok (.aload_n 0, 1) := by decide +kernel
theorem dX13_scrap_66 : decode cX13_scrap 66 = .ok (.iconst 2, 1) := by decide +kernel
theorem dX13_scrap_67 : decode cX13_scrap 67 = .ok (.invokevirtual 79, 3) := by decide +kernel
theorem dX13_scrap_70 : decode cX13_scrap 70 = .ok (.ireturn, 1) := by decide +kernel
theorem dX13_loadOf_0 : decode cX13_loadOf 0 = .ok (.iload_n 2, 1) := by decide +kernel
theorem dX13_loadOf_1 : decode cX13_loadOf 1 = .ok (.aload_n 0, 1) := by decide +kernel
theorem dX13_loadOf_2 : decode cX13_loadOf 2 = .ok (.getfield 13, 3) := by decide +kernel
theorem dX13_loadOf_5 : decode cX13_loadOf 5 = .ok (.iconst 5, 1) := by decide +kernel
theorem dX13_loadOf_6 : decode cX13_loadOf 6 = .ok (.iaload, 1) := by decide +kernel
theorem dX13_loadOf_7 : decode cX13_loadOf 7 = .ok (.iadd, 1) := by decide +kernel
theorem dX13_loadOf_8 : decode cX13_loadOf 8 = .ok (.istore_n 3, 1) := by decide +kernel
theorem dX13_loadOf_9 : decode cX13_loadOf 9 = .ok (.iconst 0, 1) := by decide +kernel
theorem dX13_loadOf_10 : decode cX13_loadOf 10 = .ok (.istore 4, 2) := by decide +kernel
theorem dX13_loadOf_12 : decode cX13_loadOf 12 = .ok (.iload 4, 2) := by decide +kernel
theorem dX13_loadOf_14 : decode cX13_loadOf 14 = .ok (.iload_n 3, 1) := by decide +kernel
theorem dX13_loadOf_15 : decode cX13_loadOf 15 = .ok (.if_icmp .gt 17, 3) := by decide +kernel
theorem dX13_loadOf_18 : decode cX13_loadOf 18 = .ok (.aload_n 0, 1) := by decide +kernel
theorem dX13_loadOf_19 : decode cX13_loadOf 19 = .ok (.getfield 26, 3) := by decide +kernel
theorem dX13_loadOf_22 : decode cX13_loadOf 22 = .ok (.iload 4, 2) := by decide +kernel
theorem dX13_loadOf_24 : decode cX13_loadOf 24 = .ok (.iconst 0, 1) := by decide +kernel
theorem dX13_loadOf_25 : decode cX13_loadOf 25 = .ok (.iastore, 1) := by decide +kernel
theorem dX13_loadOf_26 : decode cX13_loadOf 26 = .ok (.iinc 4 1, 3) := by decide +kernel
theorem dX13_loadOf_29 : decode cX13_loadOf 29 = .ok (.goto (-17), 3) := by decide +kernel
theorem dX13_loadOf_32 : decode cX13_loadOf 32 = .ok (.iconst 0, 1) := by decide +kernel
theorem dX13_loadOf_33 : decode cX13_loadOf 33 = .ok (.istore 4, 2) := by decide +kernel
theorem dX13_loadOf_35 : decode cX13_loadOf 35 = .ok (.iload 4, 2) := by decide +kernel
theorem dX13_loadOf_37 : decode cX13_loadOf 37 = .ok (.aload_n 0, 1) := by decide +kernel
theorem dX13_loadOf_38 : decode cX13_loadOf 38 = .ok (.getfield 13, 3) := by decide +kernel
theorem dX13_loadOf_41 : decode cX13_loadOf 41 = .ok (.iconst 2, 1) := by decide +kernel
theorem dX13_loadOf_42 : decode cX13_loadOf 42 = .ok (.iaload, 1) := by decide +kernel
theorem dX13_loadOf_43 : decode cX13_loadOf 43 = .ok (.if_icmp .ge 96, 3) := by decide +kernel
theorem dX13_loadOf_46 : decode cX13_loadOf 46 = .ok (.aload_n 0, 1) := by decide +kernel
theorem dX13_loadOf_47 : decode cX13_loadOf 47 = .ok (.iload 4, 2) := by decide +kernel
theorem dX13_loadOf_49 : decode cX13_loadOf 49 = .ok (.iconst 1, 1) := by decide +kernel
theorem dX13_loadOf_50 : decode cX13_loadOf 50 = .ok (.invokevirtual 65, 3) := by decide +kernel
theorem dX13_loadOf_53 : decode cX13_loadOf 53 = .ok (.iload_n 1, 1) := by decide +kernel
theorem dX13_loadOf_54 : decode cX13_loadOf 54 = .ok (.if_icmp .eq 6, 3) := by decide +kernel
theorem dX13_loadOf_57 : decode cX13_loadOf 57 = .ok (.goto 76, 3) := by decide +kernel
theorem dX13_loadOf_60 : decode cX13_loadOf 60 = .ok (.aload_n 0, 1) := by decide +kernel
theorem dX13_loadOf_61 : decode cX13_loadOf 61 = .ok (.iload 4, 2) := by decide +kernel
theorem dX13_loadOf_63 : decode cX13_loadOf 63 = .ok (.iconst 2, 1) := by decide +kernel
theorem dX13_loadOf_64 : decode cX13_loadOf 64 = .ok (.invokevirtual 65, 3) := by decide +kernel
theorem dX13_loadOf_67 : decode cX13_loadOf 67 = .ok (.aload_n 0, 1) := by decide +kernel
theorem dX13_loadOf_68 : decode cX13_loadOf 68 = .ok (.getfield 13, 3) := by decide +kernel
theorem dX13_loadOf_71 : decode cX13_loadOf 71 = .ok (.iconst 5, 1) := by decide +kernel
theorem dX13_loadOf_72 : decode cX13_loadOf 72 = .ok (.iaload, 1) := by decide +kernel
theorem dX13_loadOf_73 : decode cX13_loadOf 73 = .ok (.iadd, 1) := by decide +kernel
theorem dX13_loadOf_74 : decode cX13_loadOf 74 = .ok (.istore 5, 2) := by decide +kernel
theorem dX13_loadOf_76 : decode cX13_loadOf 76 = .ok (.iload_n 3, 1) := by decide +kernel
theorem dX13_loadOf_77 : decode cX13_loadOf 77 = .ok (.istore 6, 2) := by decide +kernel
theorem dX13_loadOf_79 : decode cX13_loadOf 79 = .ok (.iload 6, 2) := by decide +kernel
theorem dX13_loadOf_81 : decode cX13_loadOf 81 = .ok (.iload 5, 2) := by decide +kernel
theorem dX13_loadOf_83 : decode cX13_loadOf 83 = .ok (.if_icmp .lt 50, 3) := by decide +kernel
theorem dX13_loadOf_86 : decode cX13_loadOf 86 = .ok (.aload_n 0, 1) := by decide +kernel
theorem dX13_loadOf_87 : decode cX13_loadOf 87 = .ok (.getfield 26, 3) := by decide +kernel
theorem dX13_loadOf_90 : decode cX13_loadOf 90 = .ok (.iload 6, 2) := by decide +kernel
theorem dX13_loadOf_92 : decode cX13_loadOf 92 = .ok (.iload 5, 2) := by decide +kernel
theorem dX13_loadOf_94 : decode cX13_loadOf 94 = .ok (.isub, 1) := by decide +kernel
theorem dX13_loadOf_95 : decode cX13_loadOf 95 = .ok (.iaload, 1) := by decide +kernel
theorem dX13_loadOf_96 : decode cX13_loadOf 96 = .ok (.aload_n 0, 1) := by decide +kernel
theorem dX13_loadOf_97 : decode cX13_loadOf 97 = .ok (.iload 4, 2) := by decide +kernel
theorem dX13_loadOf_99 : decode cX13_loadOf 99 = .ok (.iconst 2, 1) := by decide +kernel
theorem dX13_loadOf_100 : decode cX13_loadOf 100 = .ok (.invokevirtual 65, 3) := by decide +kernel
theorem dX13_loadOf_103 : decode cX13_loadOf 103 = .ok (.iadd, 1) := by decide +kernel
theorem dX13_loadOf_104 : decode cX13_loadOf 104 = .ok (.istore 7, 2) := by decide +kernel
theorem dX13_loadOf_106 : decode cX13_loadOf 106 = .ok (.iload 7, 2) := by decide +kernel
theorem dX13_loadOf_108 : decode cX13_loadOf 108 = .ok (.aload_n 0, 1) := by decide +kernel
theorem dX13_loadOf_109 : decode cX13_loadOf 109 = .ok (.getfield 26, 3) := by decide +kernel
theorem dX13_loadOf_112 : decode cX13_loadOf 112 = .ok (.iload 6, 2) := by decide +kernel
theorem dX13_loadOf_114 : decode cX13_loadOf 114 = .ok (.iaload, 1) := by decide +kernel
theorem dX13_loadOf_115 : decode cX13_loadOf 115 = .ok (.if_icmp .le 12, 3) := by decide +kernel
theorem dX13_loadOf_118 : decode cX13_loadOf 118 = .ok (.aload_n 0, 1) := by decide +kernel
theorem dX13_loadOf_119 : decode cX13_loadOf 119 = .ok (.getfield 26, 3) := by decide +kernel
theorem dX13_loadOf_122 : decode cX13_loadOf 122 = .ok (.iload 6, 2) := by decide +kernel
theorem dX13_loadOf_124 : decode cX13_loadOf 124 = .ok (.iload 7, 2) := by decide +kernel
theorem dX13_loadOf_126 : decode cX13_loadOf 126 = .ok (.iastore, 1) := by decide +kernel
theorem dX13_loadOf_127 : decode cX13_loadOf 127 = .ok (.iinc 6 (-1), 3) := by decide +kernel
theorem dX13_loadOf_130 : decode cX13_loadOf 130 = .ok (.goto (-51), 3) := by decide +kernel
theorem dX13_loadOf_133 : decode cX13_loadOf 133 = .ok (.iinc 4 1, 3) := by decide +kernel
theorem dX13_loadOf_136 : decode cX13_loadOf 136 = .ok (.goto (-101), 3) := by decide +kernel
theorem dX13_loadOf_139 : decode cX13_loadOf 139 = .ok (.aload_n 0, 1) := by decide +kernel
theorem dX13_loadOf_140 : decode cX13_loadOf 140 = .ok (.getfield 26, 3) := by decide +kernel
theorem dX13_loadOf_143 : decode cX13_loadOf 143 = .ok (.iload_n 3, 1) := by decide +kernel
theorem dX13_loadOf_144 : decode cX13_loadOf 144 = .ok (.iaload, 1) := by decide +kernel
theorem dX13_loadOf_145 : decode cX13_loadOf 145 = .ok (.ireturn, 1) := by decide +kernel
theorem dX13_bestLoad_0 : decode cX13_bestLoad 0 = .ok (.aload_n 0, 1) := by decide +kernel
theorem dX13_bestLoad_1 : decode cX13_bestLoad 1 = .ok (.iconst 0, 1) := by decide +kernel
theorem dX13_bestLoad_2 : decode cX13_bestLoad 2 = .ok (.putfield 1, 3) := by decide +kernel
theorem dX13_bestLoad_5 : decode cX13_bestLoad 5 = .ok (.aload_n 0, 1) := by decide +kernel
theorem dX13_bestLoad_6 : decode cX13_bestLoad 6 = .ok (.iload_n 1, 1) := by decide +kernel
theorem dX13_bestLoad_7 : decode cX13_bestLoad 7 = .ok (.invokevirtual 89, 3) := by decide +kernel
theorem dX13_bestLoad_10 : decode cX13_bestLoad 10 = .ok (.istore_n 2, 1) := by decide +kernel
theorem dX13_bestLoad_11 : decode cX13_bestLoad 11 = .ok (.iload_n 2, 1) := by decide +kernel
theorem dX13_bestLoad_12 : decode cX13_bestLoad 12 = .ok (.ifCond .ge 11, 3) := by decide +kernel
theorem dX13_bestLoad_15 : decode cX13_bestLoad 15 = .ok (.aload_n 0, 1) := by decide +kernel
theorem dX13_bestLoad_16 : decode cX13_bestLoad 16 = .ok (.iconst 1, 1) := by decide +kernel
theorem dX13_bestLoad_17 : decode cX13_bestLoad 17 = .ok (.invokevirtual 79, 3) := by decide +kernel
theorem dX13_bestLoad_20 : decode cX13_bestLoad 20 = .ok (.goto 19, 3) := by decide +kernel
theorem dX13_bestLoad_23 : decode cX13_bestLoad 23 = .ok (.aload_n 0, 1) := by decide +kernel
theorem dX13_bestLoad_24 : decode cX13_bestLoad 24 = .ok (.aload_n 0, 1) := by decide +kernel
theorem dX13_bestLoad_25 : decode cX13_bestLoad 25 = .ok (.iload_n 2, 1) := by decide +kernel
theorem dX13_bestLoad_26 : decode cX13_bestLoad 26 = .ok (.iconst 1, 1) := by decide +kernel
theorem dX13_bestLoad_27 : decode cX13_bestLoad 27 = .ok (.invokevirtual 61, 3) := by decide +kernel
theorem dX13_bestLoad_30 : decode cX13_bestLoad 30 = .ok (.aload_n 0, 1) := by decide +kernel
theorem dX13_bestLoad_31 : decode cX13_bestLoad 31 = .ok (.iload_n 2, 1) := by decide +kernel
theorem dX13_bestLoad_32 : decode cX13_bestLoad 32 = .ok (.iconst 2, 1) := by decide +kernel
theorem dX13_bestLoad_33 : decode cX13_bestLoad 33 = .ok (.invokevirtual 61, 3) := by decide +kernel
theorem dX13_bestLoad_36 : decode cX13_bestLoad 36 = .ok (.invokevirtual 195, 3) := by decide +kernel
theorem dX13_bestLoad_39 : decode cX13_bestLoad 39 = .ok (.ireturn, 1) := by decide +kernel
theorem dX13_bestLoadByRecursion_0 : decode cX13_bestLoadByRecursion 0 = .ok (.aload_n 0, 1) := by decide +kernel
theorem dX13_bestLoadByRecursion_1 : decode cX13_bestLoadByRecursion 1 = .ok (.iload_n 1, 1) := by decide +kernel
theorem dX13_bestLoadByRecursion_2 : decode cX13_bestLoadByRecursion 2 = .ok (.invokevirtual 198, 3) := by decide +kernel
theorem dX13_bestLoadByRecursion_5 : decode cX13_bestLoadByRecursion 5 = .ok (.ireturn, 1) := by decide +kernel
theorem dX13_orders_0 : decode cX13_orders 0 = .ok (.aload_n 0, 1) := by decide +kernel
theorem dX13_orders_1 : decode cX13_orders 1 = .ok (.iconst 2, 1) := by decide +kernel
theorem dX13_orders_2 : decode cX13_orders 2 = .ok (.invokevirtual 183, 3) := by decide +kernel
theorem dX13_orders_5 : decode cX13_orders 5 = .ok (.ireturn, 1) := by decide +kernel
theorem dX13_isOpen_0 : decode cX13_isOpen 0 = .ok (.aload_n 0, 1) := by decide +kernel
theorem dX13_isOpen_1 : decode cX13_isOpen 1 = .ok (.iconst 0, 1) := by decide +kernel
theorem dX13_isOpen_2 : decode cX13_isOpen 2 = .ok (.putfield 1, 3) := by decide +kernel
theorem dX13_isOpen_5 : decode cX13_isOpen 5 = .ok (.aload_n 0, 1) := by decide +kernel
theorem dX13_isOpen_6 : decode cX13_isOpen 6 = .ok (.iload_n 1, 1) := by decide +kernel
theorem dX13_isOpen_7 : decode cX13_isOpen 7 = .ok (.invokevirtual 125, 3) := by decide +kernel
theorem dX13_isOpen_10 : decode cX13_isOpen 10 = .ok (.ifCond .lt 7, 3) := by decide +kernel
theorem dX13_isOpen_13 : decode cX13_isOpen 13 = .ok (.iconst 1, 1) := by decide +kernel
theorem dX13_isOpen_14 : decode cX13_isOpen 14 = .ok (.goto 4, 3) := by decide +kernel
theorem dX13_isOpen_17 : decode cX13_isOpen 17 = .ok (.iconst 0, 1) := by decide +kernel
theorem dX13_isOpen_18 : decode cX13_isOpen 18 = .ok (.ireturn, 1) := by decide +kernel
theorem dX13_asksOrder_0 : decode cX13_asksOrder 0 = .ok (.aload_n 0, 1) := by decide +kernel
theorem dX13_asksOrder_1 : decode cX13_asksOrder 1 = .ok (.iconst 0, 1) := by decide +kernel
theorem dX13_asksOrder_2 : decode cX13_asksOrder 2 = .ok (.putfield 1, 3) := by decide +kernel
theorem dX13_asksOrder_5 : decode cX13_asksOrder 5 = .ok (.aload_n 0, 1) := by decide +kernel
theorem dX13_asksOrder_6 : decode cX13_asksOrder 6 = .ok (.iload_n 1, 1) := by decide +kernel
theorem dX13_asksOrder_7 : decode cX13_asksOrder 7 = .ok (.invokevirtual 125, 3) := by decide +kernel
theorem dX13_asksOrder_10 : decode cX13_asksOrder 10 = .ok (.ifCond .ge 11, 3) := by decide +kernel
theorem dX13_asksOrder_13 : decode cX13_asksOrder 13 = .ok (.aload_n 0, 1) := by decide +kernel
theorem dX13_asksOrder_14 : decode cX13_asksOrder 14 = .ok (.iconst 1, 1) := by decide +kernel
theorem dX13_asksOrder_15 : decode cX13_asksOrder 15 = .ok (.invokevirtual 79, 3) := by decide +kernel
theorem dX13_asksOrder_18 : decode cX13_asksOrder 18 = .ok (.goto 13, 3) := by decide +kernel
theorem dX13_asksOrder_21 : decode cX13_asksOrder 21 = .ok (.aload_n 0, 1) := by decide +kernel
theorem dX13_asksOrder_22 : decode cX13_asksOrder 22 = .ok (.aload_n 0, 1) := by decide +kernel
theorem dX13_asksOrder_23 : decode cX13_asksOrder 23 = .ok (.iload_n 1, 1) := by decide +kernel
theorem dX13_asksOrder_24 : decode cX13_asksOrder 24 = .ok (.invokevirtual 125, 3) := by decide +kernel
theorem dX13_asksOrder_27 : decode cX13_asksOrder 27 = .ok (.iload_n 2, 1) := by decide +kernel
theorem dX13_asksOrder_28 : decode cX13_asksOrder 28 = .ok (.invokevirtual 65, 3) := by decide +kernel
theorem dX13_asksOrder_31 : decode cX13_asksOrder 31 = .ok (.ireturn, 1) := by decide +kernel
theorem dX13_orderMaterial_0 : decode cX13_orderMaterial 0 = .ok (.aload_n 0, 1) := by decide +kernel
theorem dX13_orderMaterial_1 : decode cX13_orderMaterial 1 = .ok (.iload_n 1, 1) := by decide +kernel
theorem dX13_orderMaterial_2 : decode cX13_orderMaterial 2 = .ok (.iconst 1, 1) := by decide +kernel
theorem dX13_orderMaterial_3 : decode cX13_orderMaterial 3 = .ok (.invokevirtual 201, 3) := by decide +kernel
theorem dX13_orderMaterial_6 : decode cX13_orderMaterial 6 = .ok (.istore_n 2, 1) := by decide +kernel
theorem dX13_orderMaterial_7 : decode cX13_orderMaterial 7 = .ok (.aload_n 0, 1) := by decide +kernel
theorem dX13_orderMaterial_8 : decode cX13_orderMaterial 8 = .ok (.getfield 1, 3) := by decide +kernel
theorem dX13_orderMaterial_11 : decode cX13_orderMaterial 11 = .ok (.ifCond .eq 5, 3) := by decide +kernel
theorem dX13_orderMaterial_14 : decode cX13_orderMaterial 14 = .ok (.iconst 0, 1) := by decide +kernel
theorem dX13_orderMaterial_15 : decode cX13_orderMaterial 15 = .ok (.ireturn, 1) := by decide +kernel
theorem dX13_orderMaterial_16 : decode cX13_orderMaterial 16 = .ok (.bipush 97, 2) := by decide +kernel
theorem dX13_orderMaterial_18 : decode cX13_orderMaterial 18 = .ok (.iload_n 2, 1) := by decide +kernel
theorem dX13_orderMaterial_19 : decode cX13_orderMaterial 19 = .ok (.iadd, 1) := by decide +kernel
theorem dX13_orderMaterial_20 : decode cX13_orderMaterial 20 = .ok (.i2c, 1) := by decide +kernel
theorem dX13_orderMaterial_21 : decode cX13_orderMaterial 21 = .ok (.ireturn, 1) := by decide +kernel
theorem dX13_orderLength_0 : decode cX13_orderLength 0 = .ok (.aload_n 0, 1) := by decide +kernel
theorem dX13_orderLength_1 : decode cX13_orderLength 1 = .ok (.iload_n 1, 1) := by decide +kernel
theorem dX13_orderLength_2 : decode cX13_orderLength 2 = .ok (.iconst 2, 1) := by decide +kernel
theorem dX13_orderLength_3 : decode cX13_orderLength 3 = .ok (.invokevirtual 201, 3) := by decide +kernel
theorem dX13_orderLength_6 : decode cX13_orderLength 6 = .ok (.ireturn, 1) := by decide +kernel
theorem dX13_due_0 : decode cX13_due 0 = .ok (.aload_n 0, 1) := by decide +kernel
theorem dX13_due_1 : decode cX13_due 1 = .ok (.iload_n 1, 1) := by decide +kernel
theorem dX13_due_2 : decode cX13_due 2 = .ok (.iconst 3, 1) := by decide +kernel
theorem dX13_due_3 : decode cX13_due 3 = .ok (.invokevirtual 201, 3) := by decide +kernel
theorem dX13_due_6 : decode cX13_due 6 = .ok (.ireturn, 1) := by decide +kernel
theorem dX13_orderAt_0 : decode cX13_orderAt 0 = .ok (.aload_n 0, 1) := by decide +kernel
theorem dX13_orderAt_1 : decode cX13_orderAt 1 = .ok (.iconst 0, 1) := by decide +kernel
theorem dX13_orderAt_2 : decode cX13_orderAt 2 = .ok (.putfield 1, 3) := by decide +kernel
theorem dX13_orderAt_5 : decode cX13_orderAt 5 = .ok (.iload_n 1, 1) := by decide +kernel
theorem dX13_orderAt_6 : decode cX13_orderAt 6 = .ok (.iconst 0, 1) := by decide +kernel
theorem dX13_orderAt_7 : decode cX13_orderAt 7 = .ok (.aload_n 0, 1) := by decide +kernel
theorem dX13_orderAt_8 : decode cX13_orderAt 8 = .ok (.getfield 13, 3) := by decide +kernel
theorem dX13_orderAt_11 : decode cX13_orderAt 11 = .ok (.iconst 2, 1) := by decide +kernel
theorem dX13_orderAt_12 : decode cX13_orderAt 12 = .ok (.iaload, 1) := by decide +kernel
theorem dX13_orderAt_13 : decode cX13_orderAt 13 = .ok (.iconst 1, 1) := by decide +kernel
theorem dX13_orderAt_14 : decode cX13_orderAt 14 = .ok (.isub, 1) := by decide +kernel
theorem dX13_orderAt_15 : decode cX13_orderAt 15 = .ok (.invokestatic 57, 3) := by decide +kernel
theorem dX13_orderAt_18 : decode cX13_orderAt 18 = .ok (.ifCond .eq 12, 3) := by decide +kernel
theorem dX13_orderAt_21 : decode cX13_orderAt 21 = .ok (.aload_n 0, 1) := by decide +kernel
theorem dX13_orderAt_22 : decode cX13_orderAt 22 = .ok (.iload_n 1, 1) := by decide +kernel
theorem dX13_orderAt_23 : decode cX13_orderAt 23 = .ok (.iconst 0, 1) := by decide +kernel
theorem dX13_orderAt_24 : decode cX13_orderAt 24 = .ok (.invokevirtual 65, 3) := by decide +kernel
theorem dX13_orderAt_27 : decode cX13_orderAt 27 = .ok (.goto 8, 3) := by decide +kernel
theorem dX13_orderAt_30 : decode cX13_orderAt 30 = .ok (.aload_n 0, 1) := by decide +kernel
theorem dX13_orderAt_31 : decode cX13_orderAt 31 = .ok (.iconst 1, 1) := by decide +kernel
theorem dX13_orderAt_32 : decode cX13_orderAt 32 = .ok (.invokevirtual 79, 3) := by decide +kernel
theorem dX13_orderAt_35 : decode cX13_orderAt 35 = .ok (.ireturn, 1) := by decide +kernel
theorem dX13_canFill_0 : decode cX13_canFill 0 = .ok (.aload_n 0, 1) := by decide +kernel
theorem dX13_canFill_1 : decode cX13_canFill 1 = .ok (.iconst 0, 1) := by decide +kernel
theorem dX13_canFill_2 : decode cX13_canFill 2 = .ok (.putfield 1, 3) := by decide +kernel
theorem dX13_canFill_5 : decode cX13_canFill 5 = .ok (.aload_n 0, 1) := by decide +kernel
theorem dX13_canFill_6 : decode cX13_canFill 6 = .ok (.iload_n 1, 1) := by decide +kernel
theorem dX13_canFill_7 : decode cX13_canFill 7 = .ok (.invokevirtual 125, 3) := by decide +kernel
theorem dX13_canFill_10 : decode cX13_canFill 10 = .ok (.istore_n 2, 1) := by decide +kernel
theorem dX13_canFill_11 : decode cX13_canFill 11 = .ok (.iload_n 2, 1) := by decide +kernel
theorem dX13_canFill_12 : decode cX13_canFill 12 = .ok (.ifCond .ge 17, 3) := by decide +kernel
theorem dX13_canFill_15 : decode cX13_canFill 15 = .ok (.aload_n 0, 1) := by decide +kernel
theorem dX13_canFill_16 : decode cX13_canFill 16 = .ok (.iconst 1, 1) := by decide +kernel
theorem dX13_canFill_17 : decode cX13_canFill 17 = .ok (.invokevirtual 79, 3) := by decide +kernel
theorem dX13_canFill_20 : decode cX13_canFill 20 = .ok (.ifCond .le 7, 3) := by decide +kernel
theorem dX13_canFill_23 : decode cX13_canFill 23 = .ok (.iconst 1, 1) := by decide +kernel
theorem dX13_canFill_24 : decode cX13_canFill 24 = .ok (.goto 4, 3) := by decide +kernel
theorem dX13_canFill_27 : decode cX13_canFill 27 = .ok (.iconst 0, 1) := by decide +kernel
theorem dX13_canFill_28 : decode cX13_canFill 28 = .ok (.ireturn, 1) := by decide +kernel
theorem dX13_canFill_29 : decode cX13_canFill 29 = .ok (.aload_n 0, 1) := by decide +kernel
theorem dX13_canFill_30 : decode cX13_canFill 30 = .ok (.iload_n 2, 1) := by decide +kernel
theorem dX13_canFill_31 : decode cX13_canFill 31 = .ok (.invokevirtual 156, 3) := by decide +kernel
theorem dX13_canFill_34 : decode cX13_canFill 34 = .ok (.ireturn, 1) := by decide +kernel
theorem dX13_chosenScrap_0 : decode cX13_chosenScrap 0 = .ok (.aload_n 0, 1) := by decide +kernel
theorem dX13_chosenScrap_1 : decode cX13_chosenScrap 1 = .ok (.iconst 0, 1) := by decide +kernel
theorem dX13_chosenScrap_2 : decode cX13_chosenScrap 2 = .ok (.putfield 1, 3) := by decide +kernel
theorem dX13_chosenScrap_5 : decode cX13_chosenScrap 5 = .ok (.aload_n 0, 1) := by decide +kernel
theorem dX13_chosenScrap_6 : decode cX13_chosenScrap 6 = .ok (.iload_n 1, 1) := by decide +kernel
theorem dX13_chosenScrap_7 : decode cX13_chosenScrap 7 = .ok (.invokevirtual 125, 3) := by decide +kernel
theorem dX13_chosenScrap_10 : decode cX13_chosenScrap 10 = .ok (.istore_n 2, 1) := by decide +kernel
theorem dX13_chosenScrap_11 : decode cX13_chosenScrap 11 = .ok (.iload_n 2, 1) := by decide +kernel
theorem dX13_chosenScrap_12 : decode cX13_chosenScrap 12 = .ok (.ifCond .lt 11, 3) := by decide +kernel
theorem dX13_chosenScrap_15 : decode cX13_chosenScrap 15 = .ok (.aload_n 0, 1) := by decide +kernel
theorem dX13_chosenScrap_16 : decode cX13_chosenScrap 16 = .ok (.iload_n 2, 1) := by decide +kernel
theorem dX13_chosenScrap_17 : decode cX13_chosenScrap 17 = .ok (.invokevirtual 141, 3) := by decide +kernel
theorem dX13_chosenScrap_20 : decode cX13_chosenScrap 20 = .ok (.ifCond .ge 11, 3) := by decide +kernel
theorem dX13_chosenScrap_23 : decode cX13_chosenScrap 23 = .ok (.aload_n 0, 1) := by decide +kernel
theorem dX13_chosenScrap_24 : decode cX13_chosenScrap 24 = .ok (.iconst 1, 1) := by decide +kernel
theorem dX13_chosenScrap_25 : decode cX13_chosenScrap 25 = .ok (.invokevirtual 79, 3) := by decide +kernel
theorem dX13_chosenScrap_28 : decode cX13_chosenScrap 28 = .ok (.goto 13, 3) := by decide +kernel
theorem dX13_chosenScrap_31 : decode cX13_chosenScrap 31 = .ok (.aload_n 0, 1) := by decide +kernel
theorem dX13_chosenScrap_32 : decode cX13_chosenScrap 32 = .ok (.aload_n 0, 1) := by decide +kernel
theorem dX13_chosenScrap_33 : decode cX13_chosenScrap 33 = .ok (.iload_n 2, 1) := by decide +kernel
theorem dX13_chosenScrap_34 : decode cX13_chosenScrap 34 = .ok (.invokevirtual 141, 3) := by decide +kernel
theorem dX13_chosenScrap_37 : decode cX13_chosenScrap 37 = .ok (.iconst 1, 1) := by decide +kernel
theorem dX13_chosenScrap_38 : decode cX13_chosenScrap 38 = .ok (.invokevirtual 106, 3) := by decide +kernel
theorem dX13_chosenScrap_41 : decode cX13_chosenScrap 41 = .ok (.ireturn, 1) := by decide +kernel
theorem dX13_chosenSpool_0 : decode cX13_chosenSpool 0 = .ok (.aload_n 0, 1) := by decide +kernel
theorem dX13_chosenSpool_1 : decode cX13_chosenSpool 1 = .ok (.iconst 0, 1) := by decide +kernel
theorem dX13_chosenSpool_2 : decode cX13_chosenSpool 2 = .ok (.putfield 1, 3) := by decide +kernel
theorem dX13_chosenSpool_5 : decode cX13_chosenSpool 5 = .ok (.aload_n 0, 1) := by decide +kernel
theorem dX13_chosenSpool_6 : decode cX13_chosenSpool 6 = .ok (.iload_n 1, 1) := by decide +kernel
theorem dX13_chosenSpool_7 : decode cX13_chosenSpool 7 = .ok (.invokevirtual 125, 3) := by decide +kernel
theorem dX13_chosenSpool_10 : decode cX13_chosenSpool 10 = .ok (.istore_n 2, 1) := by decide +kernel
theorem dX13_chosenSpool_11 : decode cX13_chosenSpool 11 = .ok (.iload_n 2, 1) := by decide +kernel
theorem dX13_chosenSpool_12 : decode cX13_chosenSpool 12 = .ok (.ifCond .lt 19, 3) := by decide +kernel
theorem dX13_chosenSpool_15 : decode cX13_chosenSpool 15 = .ok (.aload_n 0, 1) := by decide +kernel
theorem dX13_chosenSpool_16 : decode cX13_chosenSpool 16 = .ok (.iload_n 2, 1) := by decide +kernel
theorem dX13_chosenSpool_17 : decode cX13_chosenSpool 17 = .ok (.invokevirtual 141, 3) := by decide +kernel
theorem dX13_chosenSpool_20 : decode cX13_chosenSpool 20 = .ok (.ifCond .ge 11, 3) := by decide +kernel
theorem dX13_chosenSpool_23 : decode cX13_chosenSpool 23 = .ok (.aload_n 0, 1) := by decide +kernel
theorem dX13_chosenSpool_24 : decode cX13_chosenSpool 24 = .ok (.iload_n 2, 1) := by decide +kernel
theorem dX13_chosenSpool_25 : decode cX13_chosenSpool 25 = .ok (.invokevirtual 144, 3) := by decide +kernel
theorem dX13_chosenSpool_28 : decode cX13_chosenSpool 28 = .ok (.ifCond .ge 9, 3) := by decide +kernel
theorem dX13_chosenSpool_31 : decode cX13_chosenSpool 31 = .ok (.aload_n 0, 1) := by decide +kernel
theorem dX13_chosenSpool_32 : decode cX13_chosenSpool 32 = .ok (.iconst 1, 1) := by decide +kernel
theorem dX13_chosenSpool_33 : decode cX13_chosenSpool 33 = .ok (.invokevirtual 79, 3) := by decide +kernel
theorem dX13_chosenSpool_36 : decode cX13_chosenSpool 36 = .ok (.ireturn, 1) := by decide +kernel
theorem dX13_chosenSpool_37 : decode cX13_chosenSpool 37 = .ok (.aload_n 0, 1) := by decide +kernel
theorem dX13_chosenSpool_38 : decode cX13_chosenSpool 38 = .ok (.aload_n 0, 1) := by decide +kernel
theorem dX13_chosenSpool_39 : decode cX13_chosenSpool 39 = .ok (.iload_n 2, 1) := by decide +kernel
theorem dX13_chosenSpool_40 : decode cX13_chosenSpool 40 = .ok (.invokevirtual 144, 3) := by decide +kernel
theorem dX13_chosenSpool_43 : decode cX13_chosenSpool 43 = .ok (.iconst 0, 1) := by decide +kernel
theorem dX13_chosenSpool_44 : decode cX13_chosenSpool 44 = .ok (.invokevirtual 61, 3) := by decide +kernel
theorem dX13_chosenSpool_47 : decode cX13_chosenSpool 47 = .ok (.ireturn, 1) := by decide +kernel
theorem dX13_asksMaterial_0 : decode cX13_asksMaterial 0 = .ok (.aload_n 0, 1) := by decide +kernel
theorem dX13_asksMaterial_1 : decode cX13_asksMaterial 1 = .ok (.iconst 0, 1) := by decide +kernel
theorem dX13_asksMaterial_2 : decode cX13_asksMaterial 2 = .ok (.putfield 1, 3) := by decide +kernel
theorem dX13_asksMaterial_5 : decode cX13_asksMaterial 5 = .ok (.iload_n 1, 1) := by decide +kernel
theorem dX13_asksMaterial_6 : decode cX13_asksMaterial 6 = .ok (.invokestatic 72, 3) := by decide +kernel
theorem dX13_asksMaterial_9 : decode cX13_asksMaterial 9 = .ok (.ifCond .eq 17, 3) := by decide +kernel
theorem dX13_asksMaterial_12 : decode cX13_asksMaterial 12 = .ok (.aload_n 0, 1) := by decide +kernel
theorem dX13_asksMaterial_13 : decode cX13_asksMaterial 13 = .ok (.getfield 13, 3) := by decide +kernel
theorem dX13_asksMaterial_16 : decode cX13_asksMaterial 16 = .ok (.iload_n 2, 1) := by decide +kernel
theorem dX13_asksMaterial_17 : decode cX13_asksMaterial 17 = .ok (.iload_n 1, 1) := by decide +kernel
theorem dX13_asksMaterial_18 : decode cX13_asksMaterial 18 = .ok (.iadd, 1) := by decide +kernel
theorem dX13_asksMaterial_19 : decode cX13_asksMaterial 19 = .ok (.bipush 97, 2) := by decide +kernel
theorem dX13_asksMaterial_21 : decode cX13_asksMaterial 21 = .ok (.isub, 1) := by decide +kernel
theorem dX13_asksMaterial_22 : decode cX13_asksMaterial 22 = .ok (.iaload, 1) := by decide +kernel
theorem dX13_asksMaterial_23 : decode cX13_asksMaterial 23 = .ok (.goto 8, 3) := by decide +kernel
theorem dX13_asksMaterial_26 : decode cX13_asksMaterial 26 = .ok (.aload_n 0, 1) := by decide +kernel
theorem dX13_asksMaterial_27 : decode cX13_asksMaterial 27 = .ok (.iconst 1, 1) := by decide +kernel
theorem dX13_asksMaterial_28 : decode cX13_asksMaterial 28 = .ok (.invokevirtual 79, 3) := by decide +kernel
theorem dX13_asksMaterial_31 : decode cX13_asksMaterial 31 = .ok (.ireturn, 1) := by decide +kernel
theorem dX13_wound_0 : decode cX13_wound 0 = .ok (.aload_n 0, 1) := by decide +kernel
theorem dX13_wound_1 : decode cX13_wound 1 = .ok (.iload_n 1, 1) := by decide +kernel
theorem dX13_wound_2 : decode cX13_wound 2 = .ok (.bipush 9, 2) := by decide +kernel
theorem dX13_wound_4 : decode cX13_wound 4 = .ok (.invokevirtual 204, 3) := by decide +kernel
theorem dX13_wound_7 : decode cX13_wound 7 = .ok (.ireturn, 1) := by decide +kernel
theorem dX13_partsOf_0 : decode cX13_partsOf 0 = .ok (.aload_n 0, 1) := by decide +kernel
theorem dX13_partsOf_1 : decode cX13_partsOf 1 = .ok (.getfield 13, 3) := by decide +kernel
theorem dX13_partsOf_4 : decode cX13_partsOf 4 = .ok (.bipush 15, 2) := by decide +kernel
theorem dX13_partsOf_6 : decode cX13_partsOf 6 = .ok (.iload_n 1, 1) := by decide +kernel
theorem dX13_partsOf_7 : decode cX13_partsOf 7 = .ok (.iadd, 1) := by decide +kernel
theorem dX13_partsOf_8 : decode cX13_partsOf 8 = .ok (.iaload, 1) := by decide +kernel
theorem dX13_partsOf_9 : decode cX13_partsOf 9 = .ok (.aload_n 0, 1) := by decide +kernel
theorem dX13_partsOf_10 : decode cX13_partsOf 10 = .ok (.getfield 13, 3) := by decide +kernel
theorem dX13_partsOf_13 : decode cX13_partsOf 13 = .ok (.bipush 21, 2) := by decide +kernel
theorem dX13_partsOf_15 : decode cX13_partsOf 15 = .ok (.iload_n 1, 1) := by decide +kernel
theorem dX13_partsOf_16 : decode cX13_partsOf 16 = .ok (.iadd, 1) := by decide +kernel
theorem dX13_partsOf_17 : decode cX13_partsOf 17 = .ok (.iaload, 1) := by decide +kernel
theorem dX13_partsOf_18 : decode cX13_partsOf 18 = .ok (.iadd, 1) := by decide +kernel
theorem dX13_partsOf_19 : decode cX13_partsOf 19 = .ok (.aload_n 0, 1) := by decide +kernel
theorem dX13_partsOf_20 : decode cX13_partsOf 20 = .ok (.getfield 13, 3) := by decide +kernel
theorem dX13_partsOf_23 : decode cX13_partsOf 23 = .ok (.bipush 27, 2) := by decide +kernel
theorem dX13_partsOf_25 : decode cX13_partsOf 25 = .ok (.iload_n 1, 1) := by decide +kernel
theorem dX13_partsOf_26 : decode cX13_partsOf 26 = .ok (.iadd, 1) := by decide +kernel
theorem dX13_partsOf_27 : decode cX13_partsOf 27 = .ok (.iaload, 1) := by decide +kernel
theorem dX13_partsOf_28 : decode cX13_partsOf 28 = .ok (.iadd, 1) := by decide +kernel
theorem dX13_partsOf_29 : decode cX13_partsOf 29 = .ok (.istore_n 2, 1) := by decide +kernel
theorem dX13_partsOf_30 : decode cX13_partsOf 30 = .ok (.iconst 0, 1) := by decide +kernel
theorem dX13_partsOf_31 : decode cX13_partsOf 31 = .ok (.istore_n 3, 1) := by decide +kernel
theorem dX13_partsOf_32 : decode cX13_partsOf 32 = .ok (.iload_n 3, 1) := by decide +kernel
theorem dX13_partsOf_33 : decode cX13_partsOf 33 = .ok (.aload_n 0, 1) := by decide +kernel
theorem dX13_partsOf_34 : decode cX13_partsOf 34 = .ok (.getfield 13, 3) := by decide +kernel
theorem dX13_partsOf_37 : decode cX13_partsOf 37 = .ok (.iconst 0, 1) := by decide +kernel
theorem dX13_partsOf_38 : decode cX13_partsOf 38 = .ok (.iaload, 1) := by decide +kernel
theorem dX13_partsOf_39 : decode cX13_partsOf 39 = .ok (.if_icmp .ge 32, 3) := by decide +kernel
theorem dX13_partsOf_42 : decode cX13_partsOf 42 = .ok (.iload_n 2, 1) := by decide +kernel
theorem dX13_partsOf_43 : decode cX13_partsOf 43 = .ok (.aload_n 0, 1) := by decide +kernel
theorem dX13_partsOf_44 : decode cX13_partsOf 44 = .ok (.iload_n 3, 1) := by decide +kernel
theorem dX13_partsOf_45 : decode cX13_partsOf 45 = .ok (.iconst 1, 1) := by decide +kernel
theorem dX13_partsOf_46 : decode cX13_partsOf 46 = .ok (.invokevirtual 61, 3) := by decide +kernel
theorem dX13_partsOf_49 : decode cX13_partsOf 49 = .ok (.iload_n 1, 1) := by decide +kernel
theorem dX13_partsOf_50 : decode cX13_partsOf 50 = .ok (.if_icmp .ne 12, 3) := by decide +kernel
theorem dX13_partsOf_53 : decode cX13_partsOf 53 = .ok (.aload_n 0, 1) := by decide +kernel
theorem dX13_partsOf_54 : decode cX13_partsOf 54 = .ok (.iload_n 3, 1) := by decide +kernel
theorem dX13_partsOf_55 : decode cX13_partsOf 55 = .ok (.iconst 2, 1) := by decide +kernel
theorem dX13_partsOf_56 : decode cX13_partsOf 56 = .ok (.invokevirtual 61, 3) := by decide +kernel
theorem dX13_partsOf_59 : decode cX13_partsOf 59 = .ok (.goto 4, 3) := by decide +kernel
theorem dX13_partsOf_62 : decode cX13_partsOf 62 = .ok (.iconst 0, 1) := by decide +kernel
theorem dX13_partsOf_63 : decode cX13_partsOf 63 = .ok (.iadd, 1) := by decide +kernel
theorem dX13_partsOf_64 : decode cX13_partsOf 64 = .ok (.istore_n 2, 1) := by decide +kernel
theorem dX13_partsOf_65 : decode cX13_partsOf 65 = .ok (.iinc 3 1, 3) := by decide +kernel
theorem dX13_partsOf_68 : decode cX13_partsOf 68 = .ok (.goto (-36), 3) := by decide +kernel
theorem dX13_partsOf_71 : decode cX13_partsOf 71 = .ok (.iconst 0, 1) := by decide +kernel
theorem dX13_partsOf_72 : decode cX13_partsOf 72 = .ok (.istore_n 3, 1) := by decide +kernel
theorem dX13_partsOf_73 : decode cX13_partsOf 73 = .ok (.iload_n 3, 1) := by decide +kernel
theorem dX13_partsOf_74 : decode cX13_partsOf 74 = .ok (.aload_n 0, 1) := by decide +kernel
theorem dX13_partsOf_75 : decode cX13_partsOf 75 = .ok (.getfield 13, 3) := by decide +kernel
theorem dX13_partsOf_78 : decode cX13_partsOf 78 = .ok (.iconst 4, 1) := by decide +kernel
theorem dX13_partsOf_79 : decode cX13_partsOf 79 = .ok (.iaload, 1) := by decide +kernel
theorem dX13_partsOf_80 : decode cX13_partsOf 80 = .ok (.if_icmp .ge 32, 3) := by decide +kernel
theorem dX13_partsOf_83 : decode cX13_partsOf 83 = .ok (.iload_n 2, 1) := by decide +kernel
theorem dX13_partsOf_84 : decode cX13_partsOf 84 = .ok (.aload_n 0, 1) := by decide +kernel
theorem dX13_partsOf_85 : decode cX13_partsOf 85 = .ok (.iload_n 3, 1) := by decide +kernel
theorem dX13_partsOf_86 : decode cX13_partsOf 86 = .ok (.iconst 0, 1) := by decide +kernel
theorem dX13_partsOf_87 : decode cX13_partsOf 87 = .ok (.invokevirtual 106, 3) := by decide +kernel
theorem dX13_partsOf_90 : decode cX13_partsOf 90 = .ok (.iload_n 1, 1) := by decide +kernel
theorem dX13_partsOf_91 : decode cX13_partsOf 91 = .ok (.if_icmp .ne 12, 3) := by decide +kernel
theorem dX13_partsOf_94 : decode cX13_partsOf 94 = .ok (.aload_n 0, 1) := by decide +kernel
theorem dX13_partsOf_95 : decode cX13_partsOf 95 = .ok (.iload_n 3, 1) := by decide +kernel
theorem dX13_partsOf_96 : decode cX13_partsOf 96 = .ok (.iconst 1, 1) := by decide +kernel
theorem dX13_partsOf_97 : decode cX13_partsOf 97 = .ok (.invokevirtual 106, 3) := by decide +kernel
theorem dX13_partsOf_100 : decode cX13_partsOf 100 = .ok (.goto 4, 3) := by decide +kernel
theorem dX13_partsOf_103 : decode cX13_partsOf 103 = .ok (.iconst 0, 1) := by decide +kernel
theorem dX13_partsOf_104 : decode cX13_partsOf 104 = .ok (.iadd, 1) := by decide +kernel
theorem dX13_partsOf_105 : decode cX13_partsOf 105 = .ok (.istore_n 2, 1) := by decide +kernel
theorem dX13_partsOf_106 : decode cX13_partsOf 106 = .ok (.iinc 3 1, 3) := by decide +kernel
theorem dX13_partsOf_109 : decode cX13_partsOf 109 = .ok (.goto (-36), 3) := by decide +kernel
theorem dX13_partsOf_112 : decode cX13_partsOf 112 = .ok (.iload_n 2, 1) := by decide +kernel
theorem dX13_partsOf_113 : decode cX13_partsOf 113 = .ok (.ireturn, 1) := by decide +kernel
theorem dX13_woundByParts_0 : decode cX13_woundByParts 0 = .ok (.aload_n 0, 1) := by decide +kernel
theorem dX13_woundByParts_1 : decode cX13_woundByParts 1 = .ok (.iconst 0, 1) := by decide +kernel
theorem dX13_woundByParts_2 : decode cX13_woundByParts 2 = .ok (.putfield 1, 3) := by decide +kernel
theorem dX13_woundByParts_5 : decode cX13_woundByParts 5 = .ok (.iload_n 1, 1) := by decide +kernel
theorem dX13_woundByParts_6 : decode cX13_woundByParts 6 = .ok (.invokestatic 72, 3) := by decide +kernel
theorem dX13_woundByParts_9 : decode cX13_woundByParts 9 = .ok (.ifCond .eq 14, 3) := by decide +kernel
theorem dX13_woundByParts_12 : decode cX13_woundByParts 12 = .ok (.aload_n 0, 1) := by decide +kernel
theorem dX13_woundByParts_13 : decode cX13_woundByParts 13 = .ok (.iload_n 1, 1) := by decide +kernel
theorem dX13_woundByParts_14 : decode cX13_woundByParts 14 = .ok (.bipush 97, 2) := by decide +kernel
theorem dX13_woundByParts_16 : decode cX13_woundByParts 16 = .ok (.isub, 1) := by decide +kernel
theorem dX13_woundByParts_17 : decode cX13_woundByParts 17 = .ok (.invokevirtual 207, 3) := by decide +kernel
theorem dX13_woundByParts_20 : decode cX13_woundByParts 20 = .ok (.goto 8, 3) := by decide +kernel
theorem dX13_woundByParts_23 : decode cX13_woundByParts 23 = .ok (.aload_n 0, 1) := by decide +kernel
theorem dX13_woundByParts_24 : decode cX13_woundByParts 24 = .ok (.iconst 1, 1) := by decide +kernel
theorem dX13_woundByParts_25 : decode cX13_woundByParts 25 = .ok (.invokevirtual 79, 3) := by decide +kernel
theorem dX13_woundByParts_28 : decode cX13_woundByParts 28 = .ok (.ireturn, 1) := by decide +kernel
theorem dX13_delivered_0 : decode cX13_delivered 0 = .ok (.aload_n 0, 1) := by decide +kernel
theorem dX13_delivered_1 : decode cX13_delivered 1 = .ok (.iload_n 1, 1) := by decide +kernel
theorem dX13_delivered_2 : decode cX13_delivered 2 = .ok (.bipush 15, 2) := by decide +kernel
theorem dX13_delivered_4 : decode cX13_delivered 4 = .ok (.invokevirtual 204, 3) := by decide +kernel
theorem dX13_delivered_7 : decode cX13_delivered 7 = .ok (.ireturn, 1) := by decide +kernel
theorem dX13_losses_0 : decode cX13_losses 0 = .ok (.aload_n 0, 1) := by decide +kernel
theorem dX13_losses_1 : decode cX13_losses 1 = .ok (.iload_n 1, 1) := by decide +kernel
theorem dX13_losses_2 : decode cX13_losses 2 = .ok (.bipush 21, 2) := by decide +kernel
theorem dX13_losses_4 : decode cX13_losses 4 = .ok (.invokevirtual 204, 3) := by decide +kernel
theorem dX13_losses_7 : decode cX13_losses 7 = .ok (.ireturn, 1) := by decide +kernel
theorem dX13_filled_0 : decode cX13_filled 0 = .ok (.aload_n 0, 1) := by decide +kernel
theorem dX13_filled_1 : decode cX13_filled 1 = .ok (.bipush 8, 2) := by decide +kernel
theorem dX13_filled_3 : decode cX13_filled 3 = .ok (.invokevirtual 183, 3) := by decide +kernel
theorem dX13_filled_6 : decode cX13_filled 6 = .ok (.ireturn, 1) := by decide +kernel
theorem dX13_sumOf_0 : decode cX13_sumOf 0 = .ok (.iconst 0, 1) := by decide +kernel
theorem dX13_sumOf_1 : decode cX13_sumOf 1 = .ok (.istore_n 2, 1) := by decide +kernel
theorem dX13_sumOf_2 : decode cX13_sumOf 2 = .ok (.iconst 0, 1) := by decide +kernel
theorem dX13_sumOf_3 : decode cX13_sumOf 3 = .ok (.istore_n 3, 1) := by decide +kernel
theorem dX13_sumOf_4 : decode cX13_sumOf 4 = .ok (.iload_n 3, 1) := by decide +kernel
theorem dX13_sumOf_5 : decode cX13_sumOf 5 = .ok (.bipush 6, 2) := by decide +kernel
theorem dX13_sumOf_7 : decode cX13_sumOf 7 = .ok (.if_icmp .ge 20, 3) := by decide +kernel
theorem dX13_sumOf_10 : decode cX13_sumOf 10 = .ok (.iload_n 2, 1) := by decide +kernel
theorem dX13_sumOf_11 : decode cX13_sumOf 11 = .ok (.aload_n 0, 1) := by decide +kernel
theorem dX13_sumOf_12 : decode cX13_sumOf 12 = .ok (.getfield 13, 3) := by decide +kernel
theorem dX13_sumOf_15 : decode cX13_sumOf 15 = .ok (.iload_n 1, 1) := by decide +kernel
theorem dX13_sumOf_16 : decode cX13_sumOf 16 = .ok (.iload_n 3, 1) := by decide +kernel
theorem dX13_sumOf_17 : decode cX13_sumOf 17 = .ok (.iadd, 1) := by decide +kernel
theorem dX13_sumOf_18 : decode cX13_sumOf 18 = .ok (.iaload, 1) := by decide +kernel
theorem dX13_sumOf_19 : decode cX13_sumOf 19 = .ok (.iadd, 1) := by decide +kernel
theorem dX13_sumOf_20 : decode cX13_sumOf 20 = .ok (.istore_n 2, 1) := by decide +kernel
theorem dX13_sumOf_21 : decode cX13_sumOf 21 = .ok (.iinc 3 1, 3) := by decide +kernel
theorem dX13_sumOf_24 : decode cX13_sumOf 24 = .ok (.goto (-20), 3) := by decide +kernel
theorem dX13_sumOf_27 : decode cX13_sumOf 27 = .ok (.iload_n 2, 1) := by decide +kernel
theorem dX13_sumOf_28 : decode cX13_sumOf 28 = .ok (.ireturn, 1) := by decide +kernel
theorem dX13_totalDelivered_0 : decode cX13_totalDelivered 0 = .ok (.aload_n 0, 1) := by decide +kernel
theorem dX13_totalDelivered_1 : decode cX13_totalDelivered 1 = .ok (.iconst 0, 1) := by decide +kernel
theorem dX13_totalDelivered_2 : decode cX13_totalDelivered 2 = .ok (.putfield 1, 3) := by decide +kernel
theorem dX13_totalDelivered_5 : decode cX13_totalDelivered 5 = .ok (.aload_n 0, 1) := by decide +kernel
theorem dX13_totalDelivered_6 : decode cX13_totalDelivered 6 = .ok (.bipush 15, 2) := by decide +kernel
theorem dX13_totalDelivered_8 : decode cX13_totalDelivered 8 = .ok (.invokevirtual 210, 3) := by decide +kernel
theorem dX13_totalDelivered_11 : decode cX13_totalDelivered 11 = .ok (.i2l, 1) := by decide +kernel
theorem dX13_totalDelivered_12 : decode cX13_totalDelivered 12 = .ok (.lreturn, 1) := by decide +kernel
theorem dX13_meanRemaining_0 : decode cX13_meanRemaining 0 = .ok (.aload_n 0, 1) := by decide +kernel
theorem dX13_meanRemaining_1 : decode cX13_meanRemaining 1 = .ok (.iconst 0, 1) := by decide +kernel
theorem dX13_meanRemaining_2 : decode cX13_meanRemaining 2 = .ok (.putfield 1, 3) := by decide +kernel
theorem dX13_meanRemaining_5 : decode cX13_meanRemaining 5 = .ok (.aload_n 0, 1) := by decide +kernel
theorem dX13_meanRemaining_6 : decode cX13_meanRemaining 6 = .ok (.getfield 13, 3) := by decide +kernel
theorem dX13_meanRemaining_9 : decode cX13_meanRemaining 9 = .ok (.iconst 0, 1) := by decide +kernel
theorem dX13_meanRemaining_10 : decode cX13_meanRemaining 10 = .ok (.iaload, 1) := by decide +kernel
theorem dX13_meanRemaining_11 : decode cX13_meanRemaining 11 = .ok (.ifCond .ne 10, 3) := by decide +kernel
theorem dX13_meanRemaining_14 : decode cX13_meanRemaining 14 = .ok (.aload_n 0, 1) := by decide +kernel
theorem dX13_meanRemaining_15 : decode cX13_meanRemaining 15 = .ok (.iconst 1, 1) := by decide +kernel
theorem dX13_meanRemaining_16 : decode cX13_meanRemaining 16 = .ok (.invokevirtual 79, 3) := by decide +kernel
theorem dX13_meanRemaining_19 : decode cX13_meanRemaining 19 = .ok (.i2d, 1) := by decide +kernel
theorem dX13_meanRemaining_20 : decode cX13_meanRemaining 20 = .ok (.dreturn, 1) := by decide +kernel
theorem dX13_meanRemaining_21 : decode cX13_meanRemaining 21 = .ok (.iconst 0, 1) := by decide +kernel
theorem dX13_meanRemaining_22 : decode cX13_meanRemaining 22 = .ok (.istore_n 1, 1) := by decide +kernel
theorem dX13_meanRemaining_23 : decode cX13_meanRemaining 23 = .ok (.iconst 0, 1) := by decide +kernel
theorem dX13_meanRemaining_24 : decode cX13_meanRemaining 24 = .ok (.istore_n 2, 1) := by decide +kernel
theorem dX13_meanRemaining_25 : decode cX13_meanRemaining 25 = .ok (.iload_n 2, 1) := by decide +kernel
theorem dX13_meanRemaining_26 : decode cX13_meanRemaining 26 = .ok (.aload_n 0, 1) := by decide +kernel
theorem dX13_meanRemaining_27 : decode cX13_meanRemaining 27 = .ok (.getfield 13, 3) := by decide +kernel
theorem dX13_meanRemaining_30 : decode cX13_meanRemaining 30 = .ok (.iconst 0, 1) := by decide +kernel
theorem dX13_meanRemaining_31 : decode cX13_meanRemaining 31 = .ok (.iaload, 1) := by decide +kernel
theorem dX13_meanRemaining_32 : decode cX13_meanRemaining 32 = .ok (.if_icmp .ge 18, 3) := by decide +kernel
theorem dX13_meanRemaining_35 : decode cX13_meanRemaining 35 = .ok (.iload_n 1, 1) := by decide +kernel
theorem dX13_meanRemaining_36 : decode cX13_meanRemaining 36 = .ok (.aload_n 0, 1) := by decide +kernel
theorem dX13_meanRemaining_37 : decode cX13_meanRemaining 37 = .ok (.iload_n 2, 1) := by decide +kernel
theorem dX13_meanRemaining_38 : decode cX13_meanRemaining 38 = .ok (.iconst 2, 1) := by decide +kernel
theorem dX13_meanRemaining_39 : decode cX13_meanRemaining 39 = .ok (.invokevirtual 61, 3) := by decide +kernel
theorem dX13_meanRemaining_42 : decode cX13_meanRemaining 42 = .ok (.iadd, 1) := by decide +kernel
theorem dX13_meanRemaining_43 : decode cX13_meanRemaining 43 = .ok (.istore_n 1, 1) := by decide +kernel
theorem dX13_meanRemaining_44 : decode cX13_meanRemaining 44 = .ok (.iinc 2 1, 3) := by decide +kernel
theorem dX13_meanRemaining_47 : decode cX13_meanRemaining 47 = .ok (.goto (-22), 3) := by decide +kernel
theorem dX13_meanRemaining_50 : decode cX13_meanRemaining 50 = .ok (.iload_n 1, 1) := by decide +kernel
theorem dX13_meanRemaining_51 : decode cX13_meanRemaining 51 = .ok (.i2d, 1) := by decide +kernel
theorem dX13_meanRemaining_52 : decode cX13_meanRemaining 52 = .ok (.aload_n 0, 1) := by decide +kernel
theorem dX13_meanRemaining_53 : decode cX13_meanRemaining 53 = .ok (.getfield 13, 3) := by decide +kernel
theorem dX13_meanRemaining_56 : decode cX13_meanRemaining 56 = .ok (.iconst 0, 1) := by decide +kernel
theorem dX13_meanRemaining_57 : decode cX13_meanRemaining 57 = .ok (.iaload, 1) := by decide +kernel
theorem dX13_meanRemaining_58 : decode cX13_meanRemaining 58 = .ok (.i2d, 1) := by decide +kernel
theorem dX13_meanRemaining_59 : decode cX13_meanRemaining 59 = .ok (.ddiv, 1) := by decide +kernel
theorem dX13_meanRemaining_60 : decode cX13_meanRemaining 60 = .ok (.dreturn, 1) := by decide +kernel
theorem dX13_lossRate_0 : decode cX13_lossRate 0 = .ok (.aload_n 0, 1) := by decide +kernel
theorem dX13_lossRate_1 : decode cX13_lossRate 1 = .ok (.iconst 0, 1) := by decide +kernel
theorem dX13_lossRate_2 : decode cX13_lossRate 2 = .ok (.putfield 1, 3) := by decide +kernel
theorem dX13_lossRate_5 : decode cX13_lossRate 5 = .ok (.aload_n 0, 1) := by decide +kernel
theorem dX13_lossRate_6 : decode cX13_lossRate 6 = .ok (.bipush 15, 2) := by decide +kernel
theorem dX13_lossRate_8 : decode cX13_lossRate 8 = .ok (.invokevirtual 210, 3) := by decide +kernel
theorem dX13_lossRate_11 : decode cX13_lossRate 11 = .ok (.ifCond .ne 12, 3) := by decide +kernel
theorem dX13_lossRate_14 : decode cX13_lossRate 14 = .ok (.aload_n 0, 1) := by decide +kernel
theorem dX13_lossRate_15 : decode cX13_lossRate 15 = .ok (.iconst 1, 1) := by decide +kernel
theorem dX13_lossRate_16 : decode cX13_lossRate 16 = .ok (.invokevirtual 79, 3) := by decide +kernel
theorem dX13_lossRate_19 : decode cX13_lossRate 19 = .ok (.i2f, 1) := by decide +kernel
theorem dX13_lossRate_20 : decode cX13_lossRate 20 = .ok (.goto 18, 3) := by decide +kernel
theorem dX13_lossRate_23 : decode cX13_lossRate 23 = .ok (.aload_n 0, 1) := by decide +kernel
theorem dX13_lossRate_24 : decode cX13_lossRate 24 = .ok (.bipush 21, 2) := by decide +kernel
theorem dX13_lossRate_26 : decode cX13_lossRate 26 = .ok (.invokevirtual 210, 3) := by decide +kernel
theorem dX13_lossRate_29 : decode cX13_lossRate 29 = .ok (.i2f, 1) := by decide +kernel
theorem dX13_lossRate_30 : decode cX13_lossRate 30 = .ok (.aload_n 0, 1) := by decide +kernel
theorem dX13_lossRate_31 : decode cX13_lossRate 31 = .ok (.bipush 15, 2) := by decide +kernel
theorem dX13_lossRate_33 : decode cX13_lossRate 33 = .ok (.invokevirtual 210, 3) := by decide +kernel
theorem dX13_lossRate_36 : decode cX13_lossRate 36 = .ok (.i2f, 1) := by decide +kernel
theorem dX13_lossRate_37 : decode cX13_lossRate 37 = .ok (.fdiv, 1) := by decide +kernel
theorem dX13_lossRate_38 : decode cX13_lossRate 38 = .ok (.freturn, 1) := by decide +kernel
theorem dX13_isConsistent_0 : decode cX13_isConsistent 0 = .ok (.aload_n 0, 1) := by decide +kernel
theorem dX13_isConsistent_1 : decode cX13_isConsistent 1 = .ok (.iconst 0, 1) := by decide +kernel
theorem dX13_isConsistent_2 : decode cX13_isConsistent 2 = .ok (.putfield 1, 3) := by decide +kernel
theorem dX13_isConsistent_5 : decode cX13_isConsistent 5 = .ok (.iconst 0, 1) := by decide +kernel
theorem dX13_isConsistent_6 : decode cX13_isConsistent 6 = .ok (.istore_n 1, 1) := by decide +kernel
theorem dX13_isConsistent_7 : decode cX13_isConsistent 7 = .ok (.iload_n 1, 1) := by decide +kernel
theorem dX13_isConsistent_8 : decode cX13_isConsistent 8 = .ok (.bipush 6, 2) := by decide +kernel
theorem dX13_isConsistent_10 : decode cX13_isConsistent 10 = .ok (.if_icmp .ge 28, 3) := by decide +kernel
theorem dX13_isConsistent_13 : decode cX13_isConsistent 13 = .ok (.aload_n 0, 1) := by decide +kernel
theorem dX13_isConsistent_14 : decode cX13_isConsistent 14 = .ok (.iload_n 1, 1) := by decide +kernel
theorem dX13_isConsistent_15 : decode cX13_isConsistent 15 = .ok (.invokevirtual 207, 3) := by decide +kernel
theorem dX13_isConsistent_18 : decode cX13_isConsistent 18 = .ok (.aload_n 0, 1) := by decide +kernel
theorem dX13_isConsistent_19 : decode cX13_isConsistent 19 = .ok (.getfield 13, 3) := by decide +kernel
theorem dX13_isConsistent_22 : decode cX13_isConsistent 22 = .ok (.bipush 9, 2) := by decide +kernel
theorem dX13_isConsistent_24 : decode cX13_isConsistent 24 = .ok (.iload_n 1, 1) := by decide +kernel
theorem dX13_isConsistent_25 : decode cX13_isConsistent 25 = .ok (.iadd, 1) := by decide +kernel
theorem dX13_isConsistent_26 : decode cX13_isConsistent 26 = .ok (.iaload, 1) := by decide +kernel
theorem dX13_isConsistent_27 : decode cX13_isConsistent 27 = .ok (.if_icmp .eq 5, 3) := by decide +kernel
theorem dX13_isConsistent_30 : decode cX13_isConsistent 30 = .ok (.iconst 0, 1) := by decide +kernel
theorem dX13_isConsistent_31 : decode cX13_isConsistent 31 = .ok (.ireturn, 1) := by decide +kernel
theorem dX13_isConsistent_32 : decode cX13_isConsistent 32 = .ok (.iinc 1 1, 3) := by decide +kernel
theorem dX13_isConsistent_35 : decode cX13_isConsistent 35 = .ok (.goto (-28), 3) := by decide +kernel
theorem dX13_isConsistent_38 : decode cX13_isConsistent 38 = .ok (.iconst 1, 1) := by decide +kernel
theorem dX13_isConsistent_39 : decode cX13_isConsistent 39 = .ok (.istore_n 1, 1) := by decide +kernel
theorem dX13_isConsistent_40 : decode cX13_isConsistent 40 = .ok (.iload_n 1, 1) := by decide +kernel
theorem dX13_isConsistent_41 : decode cX13_isConsistent 41 = .ok (.aload_n 0, 1) := by decide +kernel
theorem dX13_isConsistent_42 : decode cX13_isConsistent 42 = .ok (.getfield 13, 3) := by decide +kernel
theorem dX13_isConsistent_45 : decode cX13_isConsistent 45 = .ok (.iconst 2, 1) := by decide +kernel
theorem dX13_isConsistent_46 : decode cX13_isConsistent 46 = .ok (.iaload, 1) := by decide +kernel
theorem dX13_isConsistent_47 : decode cX13_isConsistent 47 = .ok (.if_icmp .ge 28, 3) := by decide +kernel
theorem dX13_isConsistent_50 : decode cX13_isConsistent 50 = .ok (.aload_n 0, 1) := by decide +kernel
theorem dX13_isConsistent_51 : decode cX13_isConsistent 51 = .ok (.iload_n 1, 1) := by decide +kernel
theorem dX13_isConsistent_52 : decode cX13_isConsistent 52 = .ok (.iconst 1, 1) := by decide +kernel
theorem dX13_isConsistent_53 : decode cX13_isConsistent 53 = .ok (.isub, 1) := by decide +kernel
theorem dX13_isConsistent_54 : decode cX13_isConsistent 54 = .ok (.iconst 3, 1) := by decide +kernel
theorem dX13_isConsistent_55 : decode cX13_isConsistent 55 = .ok (.invokevirtual 65, 3) := by decide +kernel
theorem dX13_isConsistent_58 : decode cX13_isConsistent 58 = .ok (.aload_n 0, 1) := by decide +kernel
theorem dX13_isConsistent_59 : decode cX13_isConsistent 59 = .ok (.iload_n 1, 1) := by decide +kernel
theorem dX13_isConsistent_60 : decode cX13_isConsistent 60 = .ok (.iconst 3, 1) := by decide +kernel
theorem dX13_isConsistent_61 : decode cX13_isConsistent 61 = .ok (.invokevirtual 65, 3) := by decide +kernel
theorem dX13_isConsistent_64 : decode cX13_isConsistent 64 = .ok (.if_icmp .le 5, 3) := by decide +kernel
theorem dX13_isConsistent_67 : decode cX13_isConsistent 67 = .ok (.iconst 0, 1) := by decide +kernel
theorem dX13_isConsistent_68 : decode cX13_isConsistent 68 = .ok (.ireturn, 1) := by decide +kernel
theorem dX13_isConsistent_69 : decode cX13_isConsistent 69 = .ok (.iinc 1 1, 3) := by decide +kernel
theorem dX13_isConsistent_72 : decode cX13_isConsistent 72 = .ok (.goto (-32), 3) := by decide +kernel
theorem dX13_isConsistent_75 : decode cX13_isConsistent 75 = .ok (.iconst 1, 1) := by decide +kernel
theorem dX13_isConsistent_76 : decode cX13_isConsistent 76 = .ok (.ireturn, 1) := by decide +kernel
theorem dX13_writes_0 : decode cX13_writes 0 = .ok (.aload_n 0, 1) := by decide +kernel
theorem dX13_writes_1 : decode cX13_writes 1 = .ok (.getfield 29, 3) := by decide +kernel
theorem dX13_writes_4 : decode cX13_writes 4 = .ok (.aload_n 0, 1) := by decide +kernel
theorem dX13_writes_5 : decode cX13_writes 5 = .ok (.getfield 213, 3) := by decide +kernel
theorem dX13_writes_8 : decode cX13_writes 8 = .ok (.iload_n 1, 1) := by decide +kernel
theorem dX13_writes_9 : decode cX13_writes 9 = .ok (.i2c, 1) := by decide +kernel
theorem dX13_writes_10 : decode cX13_writes 10 = .ok (.castore, 1) := by decide +kernel
theorem dX13_writes_11 : decode cX13_writes 11 = .ok (.aload_n 0, 1) := by decide +kernel
theorem dX13_writes_12 : decode cX13_writes 12 = .ok (.dup, 1) := by decide +kernel
theorem dX13_writes_13 : decode cX13_writes 13 = .ok (.getfield 213, 3) := by decide +kernel
theorem dX13_writes_16 : decode cX13_writes 16 = .ok (.iconst 1, 1) := by decide +kernel
theorem dX13_writes_17 : decode cX13_writes 17 = .ok (.iadd, 1) := by decide +kernel
theorem dX13_writes_18 : decode cX13_writes 18 = .ok (.putfield 213, 3) := by decide +kernel
theorem dX13_writes_21 : decode cX13_writes 21 = .ok (.return_, 1) := by decide +kernel
theorem dX13_writesNumber_0 : decode cX13_writesNumber 0 = .ok (.iconst 1, 1) := by decide +kernel
theorem dX13_writesNumber_1 : decode cX13_writesNumber 1 = .ok (.istore_n 2, 1) := by decide +kernel
theorem dX13_writesNumber_2 : decode cX13_writesNumber 2 = .ok (.iload_n 1, 1) := by decide +kernel
theorem dX13_writesNumber_3 : decode cX13_writesNumber 3 = .ok (.iload_n 2, 1) := by decide +kernel
theorem dX13_writesNumber_4 : decode cX13_writesNumber 4 = .ok (.idiv, 1) := by decide +kernel
theorem dX13_writesNumber_5 : decode cX13_writesNumber 5 = .ok (.bipush 9, 2) := by decide +kernel
theorem dX13_writesNumber_7 : decode cX13_writesNumber 7 = .ok (.if_icmp .le 11, 3) := by decide +kernel
theorem dX13_writesNumber_10 : decode cX13_writesNumber 10 = .ok (.iload_n 2, 1) := by decide +kernel
theorem dX13_writesNumber_11 : decode cX13_writesNumber 11 = .ok (.bipush 10, 2) := by decide +kernel
theorem dX13_writesNumber_13 : decode cX13_writesNumber 13 = .ok (.imul, 1) := by decide +kernel
theorem dX13_writesNumber_14 : decode cX13_writesNumber 14 = .ok (.istore_n 2, 1) := by decide +kernel
theorem dX13_writesNumber_15 : decode cX13_writesNumber 15 = .ok (.goto (-13), 3) := by decide +kernel
theorem dX13_writesNumber_18 : decode cX13_writesNumber 18 = .ok (.iload_n 2, 1) := by decide +kernel
theorem dX13_writesNumber_19 : decode cX13_writesNumber 19 = .ok (.istore_n 3, 1) := by decide +kernel
theorem dX13_writesNumber_20 : decode cX13_writesNumber 20 = .ok (.iload_n 3, 1) := by decide +kernel
theorem dX13_writesNumber_21 : decode cX13_writesNumber 21 = .ok (.ifCond .le 24, 3) := by decide +kernel
theorem dX13_writesNumber_24 : decode cX13_writesNumber 24 = .ok (.aload_n 0, 1) := by decide +kernel
theorem dX13_writesNumber_25 : decode cX13_writesNumber 25 = .ok (.bipush 48, 2) := by decide +kernel
theorem dX13_writesNumber_27 : decode cX13_writesNumber 27 = .ok (.iload_n 1, 1) := by decide +kernel
theorem dX13_writesNumber_28 : decode cX13_writesNumber 28 = .ok (.iload_n 3, 1) := by decide +kernel
theorem dX13_writesNumber_29 : decode cX13_writesNumber 29 = .ok (.idiv, 1) := by decide +kernel
theorem dX13_writesNumber_30 : decode cX13_writesNumber 30 = .ok (.bipush 10, 2) := by decide +kernel
theorem dX13_writesNumber_32 : decode cX13_writesNumber 32 = .ok (.irem, 1) := by decide +kernel
theorem dX13_writesNumber_33 : decode cX13_writesNumber 33 = .ok (.iadd, 1) := by decide +kernel
theorem dX13_writesNumber_34 : decode cX13_writesNumber 34 = .ok (.invokevirtual 216, 3) := by decide +kernel
theorem dX13_writesNumber_37 : decode cX13_writesNumber 37 = .ok (.iload_n 3, 1) := by decide +kernel
theorem dX13_writesNumber_38 : decode cX13_writesNumber 38 = .ok (.bipush 10, 2) := by decide +kernel
theorem dX13_writesNumber_40 : decode cX13_writesNumber 40 = .ok (.idiv, 1) := by decide +kernel
theorem dX13_writesNumber_41 : decode cX13_writesNumber 41 = .ok (.istore_n 3, 1) := by decide +kernel
theorem dX13_writesNumber_42 : decode cX13_writesNumber 42 = .ok (.goto (-22), 3) := by decide +kernel
theorem dX13_writesNumber_45 : decode cX13_writesNumber 45 = .ok (.return_, 1) := by decide +kernel
theorem dX13_writeSpool_0 : decode cX13_writeSpool 0 = .ok (.aload_n 0, 1) := by decide +kernel
theorem dX13_writeSpool_1 : decode cX13_writeSpool 1 = .ok (.iconst 0, 1) := by decide +kernel
theorem dX13_writeSpool_2 : decode cX13_writeSpool 2 = .ok (.putfield 1, 3) := by decide +kernel
theorem dX13_writeSpool_5 : decode cX13_writeSpool 5 = .ok (.aload_n 0, 1) := by decide +kernel
theorem dX13_writeSpool_6 : decode cX13_writeSpool 6 = .ok (.iload_n 1, 1) := by decide +kernel
theorem dX13_writeSpool_7 : decode cX13_writeSpool 7 = .ok (.invokevirtual 89, 3) := by decide +kernel
theorem dX13_writeSpool_10 : decode cX13_writeSpool 10 = .ok (.istore_n 2, 1) := by decide +kernel
theorem dX13_writeSpool_11 : decode cX13_writeSpool 11 = .ok (.iload_n 2, 1) := by decide +kernel
theorem dX13_writeSpool_12 : decode cX13_writeSpool 12 = .ok (.ifCond .ge 9, 3) := by decide +kernel
theorem dX13_writeSpool_15 : decode cX13_writeSpool 15 = .ok (.aload_n 0, 1) := by decide +kernel
theorem dX13_writeSpool_16 : decode cX13_writeSpool 16 = .ok (.iconst 1, 1) := by decide +kernel
theorem dX13_writeSpool_17 : decode cX13_writeSpool 17 = .ok (.invokevirtual 79, 3) := by decide +kernel
theorem dX13_writeSpool_20 : decode cX13_writeSpool 20 = .ok (.ireturn, 1) := by decide +kernel
theorem dX13_writeSpool_21 : decode cX13_writeSpool 21 = .ok (.aload_n 0, 1) := by decide +kernel
theorem dX13_writeSpool_22 : decode cX13_writeSpool 22 = .ok (.iconst 0, 1) := by decide +kernel
theorem dX13_writeSpool_23 : decode cX13_writeSpool 23 = .ok (.putfield 213, 3) := by decide +kernel
theorem dX13_writeSpool_26 : decode cX13_writeSpool 26 = .ok (.aload_n 0, 1) := by decide +kernel
theorem dX13_writeSpool_27 : decode cX13_writeSpool 27 = .ok (.iload_n 1, 1) := by decide +kernel
theorem dX13_writeSpool_28 : decode cX13_writeSpool 28 = .ok (.invokevirtual 219, 3) := by decide +kernel
theorem dX13_writeSpool_31 : decode cX13_writeSpool 31 = .ok (.aload_n 0, 1) := by decide +kernel
theorem dX13_writeSpool_32 : decode cX13_writeSpool 32 = .ok (.bipush 97, 2) := by decide +kernel
theorem dX13_writeSpool_34 : decode cX13_writeSpool 34 = .ok (.aload_n 0, 1) := by decide +kernel
theorem dX13_writeSpool_35 : decode cX13_writeSpool 35 = .ok (.iload_n 2, 1) := by decide +kernel
theorem dX13_writeSpool_36 : decode cX13_writeSpool 36 = .ok (.iconst 1, 1) := by decide +kernel
theorem dX13_writeSpool_37 : decode cX13_writeSpool 37 = .ok (.invokevirtual 61, 3) := by decide +kernel
theorem dX13_writeSpool_40 : decode cX13_writeSpool 40 = .ok (.iadd, 1) := by decide +kernel
theorem dX13_writeSpool_41 : decode cX13_writeSpool 41 = .ok (.invokevirtual 216, 3) := by decide +kernel
theorem dX13_writeSpool_44 : decode cX13_writeSpool 44 = .ok (.aload_n 0, 1) := by decide +kernel
theorem dX13_writeSpool_45 : decode cX13_writeSpool 45 = .ok (.bipush 58, 2) := by decide +kernel
theorem dX13_writeSpool_47 : decode cX13_writeSpool 47 = .ok (.invokevirtual 216, 3) := by decide +kernel
theorem dX13_writeSpool_50 : decode cX13_writeSpool 50 = .ok (.aload_n 0, 1) := by decide +kernel
theorem dX13_writeSpool_51 : decode cX13_writeSpool 51 = .ok (.aload_n 0, 1) := by decide +kernel
theorem dX13_writeSpool_52 : decode cX13_writeSpool 52 = .ok (.iload_n 2, 1) := by decide +kernel
theorem dX13_writeSpool_53 : decode cX13_writeSpool 53 = .ok (.iconst 2, 1) := by decide +kernel
theorem dX13_writeSpool_54 : decode cX13_writeSpool 54 = .ok (.invokevirtual 61, 3) := by decide +kernel
theorem dX13_writeSpool_57 : decode cX13_writeSpool 57 = .ok (.invokevirtual 219, 3) := by decide +kernel
theorem dX13_writeSpool_60 : decode cX13_writeSpool 60 = .ok (.aload_n 0, 1) := by decide +kernel
theorem dX13_writeSpool_61 : decode cX13_writeSpool 61 = .ok (.bipush 47, 2) := by decide +kernel
theorem dX13_writeSpool_63 : decode cX13_writeSpool 63 = .ok (.invokevirtual 216, 3) := by decide +kernel
theorem dX13_writeSpool_66 : decode cX13_writeSpool 66 = .ok (.aload_n 0, 1) := by decide +kernel
theorem dX13_writeSpool_67 : decode cX13_writeSpool 67 = .ok (.aload_n 0, 1) := by decide +kernel
theorem dX13_writeSpool_68 : decode cX13_writeSpool 68 = .ok (.iload_n 2, 1) := by decide +kernel
theorem dX13_writeSpool_69 : decode cX13_writeSpool 69 = .ok (.iconst 3, 1) := by decide +kernel
theorem dX13_writeSpool_70 : decode cX13_writeSpool 70 = .ok (.invokevirtual 61, 3) := by decide +kernel
theorem dX13_writeSpool_73 : decode cX13_writeSpool 73 = .ok (.invokevirtual 219, 3) := by decide +kernel
theorem dX13_writeSpool_76 : decode cX13_writeSpool 76 = .ok (.aload_n 0, 1) := by decide +kernel
theorem dX13_writeSpool_77 : decode cX13_writeSpool 77 = .ok (.getfield 213, 3) := by decide +kernel
theorem dX13_writeSpool_80 : decode cX13_writeSpool 80 = .ok (.ireturn, 1) := by decide +kernel
theorem dX13_writeOrders_0 : decode cX13_writeOrders 0 = .ok (.aload_n 0, 1) := by decide +kernel
theorem dX13_writeOrders_1 : decode cX13_writeOrders 1 = .ok (.iconst 0, 1) := by decide +kernel
theorem dX13_writeOrders_2 : decode cX13_writeOrders 2 = .ok (.putfield 1, 3) := by decide +kernel
theorem dX13_writeOrders_5 : decode cX13_writeOrders 5 = .ok (.aload_n 0, 1) := by decide +kernel
theorem dX13_writeOrders_6 : decode cX13_writeOrders 6 = .ok (.iconst 0, 1) := by decide +kernel
theorem dX13_writeOrders_7 : decode cX13_writeOrders 7 = .ok (.putfield 213, 3) := by decide +kernel
theorem dX13_writeOrders_10 : decode cX13_writeOrders 10 = .ok (.iconst 0, 1) := by decide +kernel
theorem dX13_writeOrders_11 : decode cX13_writeOrders 11 = .ok (.istore_n 1, 1) := by decide +kernel
theorem dX13_writeOrders_12 : decode cX13_writeOrders 12 = .ok (.iload_n 1, 1) := by decide +kernel
theorem dX13_writeOrders_13 : decode cX13_writeOrders 13 = .ok (.aload_n 0, 1) := by decide +kernel
theorem dX13_writeOrders_14 : decode cX13_writeOrders 14 = .ok (.getfield 13, 3) := by decide +kernel
theorem dX13_writeOrders_17 : decode cX13_writeOrders 17 = .ok (.iconst 2, 1) := by decide +kernel
theorem dX13_writeOrders_18 : decode cX13_writeOrders 18 = .ok (.iaload, 1) := by decide +kernel
theorem dX13_writeOrders_19 : decode cX13_writeOrders 19 = .ok (.if_icmp .ge 68, 3) := by decide +kernel
theorem dX13_writeOrders_22 : decode cX13_writeOrders 22 = .ok (.iload_n 1, 1) := by decide +kernel
theorem dX13_writeOrders_23 : decode cX13_writeOrders 23 = .ok (.ifCond .le 9, 3) := by decide +kernel
theorem dX13_writeOrders_26 : decode cX13_writeOrders 26 = .ok (.aload_n 0, 1) := by decide +kernel
theorem dX13_writeOrders_27 : decode cX13_writeOrders 27 = .ok (.bipush 32, 2) := by decide +kernel
theorem dX13_writeOrders_29 : decode cX13_writeOrders 29 = .ok (.invokevirtual 216, 3) := by decide +kernel
theorem dX13_writeOrders_32 : decode cX13_writeOrders 32 = .ok (.aload_n 0, 1) := by decide +kernel
theorem dX13_writeOrders_33 : decode cX13_writeOrders 33 = .ok (.aload_n 0, 1) := by decide +kernel
theorem dX13_writeOrders_34 : decode cX13_writeOrders 34 = .ok (.iload_n 1, 1) := by decide +kernel
theorem dX13_writeOrders_35 : decode cX13_writeOrders 35 = .ok (.iconst 0, 1) := by decide +kernel
theorem dX13_writeOrders_36 : decode cX13_writeOrders 36 = .ok (.invokevirtual 65, 3) := by decide +kernel
theorem dX13_writeOrders_39 : decode cX13_writeOrders 39 = .ok (.invokevirtual 219, 3) := by decide +kernel
theorem dX13_writeOrders_42 : decode cX13_writeOrders 42 = .ok (.aload_n 0, 1) := by decide +kernel
theorem dX13_writeOrders_43 : decode cX13_writeOrders 43 = .ok (.bipush 97, 2) := by decide +kernel
theorem dX13_writeOrders_45 : decode cX13_writeOrders 45 = .ok (.aload_n 0, 1) := by decide +kernel
theorem dX13_writeOrders_46 : decode cX13_writeOrders 46 = .ok (.iload_n 1, 1) := by decide +kernel
theorem dX13_writeOrders_47 : decode cX13_writeOrders 47 = .ok (.iconst 1, 1) := by decide +kernel
theorem dX13_writeOrders_48 : decode cX13_writeOrders 48 = .ok (.invokevirtual 65, 3) := by decide +kernel
theorem dX13_writeOrders_51 : decode cX13_writeOrders 51 = .ok (.iadd, 1) := by decide +kernel
theorem dX13_writeOrders_52 : decode cX13_writeOrders 52 = .ok (.invokevirtual 216, 3) := by decide +kernel
theorem dX13_writeOrders_55 : decode cX13_writeOrders 55 = .ok (.aload_n 0, 1) := by decide +kernel
theorem dX13_writeOrders_56 : decode cX13_writeOrders 56 = .ok (.aload_n 0, 1) := by decide +kernel
theorem dX13_writeOrders_57 : decode cX13_writeOrders 57 = .ok (.iload_n 1, 1) := by decide +kernel
theorem dX13_writeOrders_58 : decode cX13_writeOrders 58 = .ok (.iconst 2, 1) := by decide +kernel
theorem dX13_writeOrders_59 : decode cX13_writeOrders 59 = .ok (.invokevirtual 65, 3) := by decide +kernel
theorem dX13_writeOrders_62 : decode cX13_writeOrders 62 = .ok (.invokevirtual 219, 3) := by decide +kernel
theorem dX13_writeOrders_65 : decode cX13_writeOrders 65 = .ok (.aload_n 0, 1) := by decide +kernel
theorem dX13_writeOrders_66 : decode cX13_writeOrders 66 = .ok (.bipush 64, 2) := by decide +kernel
theorem dX13_writeOrders_68 : decode cX13_writeOrders 68 = .ok (.invokevirtual 216, 3) := by decide +kernel
theorem dX13_writeOrders_71 : decode cX13_writeOrders 71 = .ok (.aload_n 0, 1) := by decide +kernel
theorem dX13_writeOrders_72 : decode cX13_writeOrders 72 = .ok (.aload_n 0, 1) := by decide +kernel
theorem dX13_writeOrders_73 : decode cX13_writeOrders 73 = .ok (.iload_n 1, 1) := by decide +kernel
theorem dX13_writeOrders_74 : decode cX13_writeOrders 74 = .ok (.iconst 3, 1) := by decide +kernel
theorem dX13_writeOrders_75 : decode cX13_writeOrders 75 = .ok (.invokevirtual 65, 3) := by decide +kernel
theorem dX13_writeOrders_78 : decode cX13_writeOrders 78 = .ok (.invokevirtual 219, 3) := by decide +kernel
theorem dX13_writeOrders_81 : decode cX13_writeOrders 81 = .ok (.iinc 1 1, 3) := by decide +kernel
theorem dX13_writeOrders_84 : decode cX13_writeOrders 84 = .ok (.goto (-72), 3) := by decide +kernel
theorem dX13_writeOrders_87 : decode cX13_writeOrders 87 = .ok (.aload_n 0, 1) := by decide +kernel
theorem dX13_writeOrders_88 : decode cX13_writeOrders 88 = .ok (.getfield 213, 3) := by decide +kernel
theorem dX13_writeOrders_91 : decode cX13_writeOrders 91 = .ok (.ireturn, 1) := by decide +kernel
theorem dX13_charAt_0 : decode cX13_charAt 0 = .ok (.aload_n 0, 1) := by decide +kernel
theorem dX13_charAt_1 : decode cX13_charAt 1 = .ok (.iconst 0, 1) := by decide +kernel
theorem dX13_charAt_2 : decode cX13_charAt 2 = .ok (.putfield 1, 3) := by decide +kernel
theorem dX13_charAt_5 : decode cX13_charAt 5 = .ok (.iload_n 1, 1) := by decide +kernel
theorem dX13_charAt_6 : decode cX13_charAt 6 = .ok (.iconst 0, 1) := by decide +kernel
theorem dX13_charAt_7 : decode cX13_charAt 7 = .ok (.aload_n 0, 1) := by decide +kernel
theorem dX13_charAt_8 : decode cX13_charAt 8 = .ok (.getfield 213, 3) := by decide +kernel
theorem dX13_charAt_11 : decode cX13_charAt 11 = .ok (.iconst 1, 1) := by decide +kernel
theorem dX13_charAt_12 : decode cX13_charAt 12 = .ok (.isub, 1) := by decide +kernel
theorem dX13_charAt_13 : decode cX13_charAt 13 = .ok (.invokestatic 57, 3) := by decide +kernel
theorem dX13_charAt_16 : decode cX13_charAt 16 = .ok (.ifCond .eq 10, 3) := by decide +kernel
theorem dX13_charAt_19 : decode cX13_charAt 19 = .ok (.aload_n 0, 1) := by decide +kernel
theorem dX13_charAt_20 : decode cX13_charAt 20 = .ok (.getfield 29, 3) := by decide +kernel
theorem dX13_charAt_23 : decode cX13_charAt 23 = .ok (.iload_n 1, 1) := by decide +kernel
theorem dX13_charAt_24 : decode cX13_charAt 24 = .ok (.caload, 1) := by decide +kernel
theorem dX13_charAt_25 : decode cX13_charAt 25 = .ok (.ireturn, 1) := by decide +kernel
theorem dX13_charAt_26 : decode cX13_charAt 26 = .ok (.aload_n 0, 1) := by decide +kernel
theorem dX13_charAt_27 : decode cX13_charAt 27 = .ok (.iconst 1, 1) := by decide +kernel
theorem dX13_charAt_28 : decode cX13_charAt 28 = .ok (.invokevirtual 79, 3) := by decide +kernel
theorem dX13_charAt_31 : decode cX13_charAt 31 = .ok (.i2c, 1) := by decide +kernel
theorem dX13_charAt_32 : decode cX13_charAt 32 = .ok (.ireturn, 1) := by decide +kernel
theorem dX13_type_0 : decode cX13_type 0 = .ok (.aload_n 0, 1) := by decide +kernel
theorem dX13_type_1 : decode cX13_type 1 = .ok (.iconst 0, 1) := by decide +kernel
theorem dX13_type_2 : decode cX13_type 2 = .ok (.putfield 1, 3) := by decide +kernel
theorem dX13_type_5 : decode cX13_type 5 = .ok (.aload_n 0, 1) := by decide +kernel
theorem dX13_type_6 : decode cX13_type 6 = .ok (.getfield 222, 3) := by decide +kernel
theorem dX13_type_9 : decode cX13_type 9 = .ok (.bipush 60, 2) := by decide +kernel
theorem dX13_type_11 : decode cX13_type 11 = .ok (.if_icmp .ne 9, 3) := by decide +kernel
theorem dX13_type_14 : decode cX13_type 14 = .ok (.aload_n 0, 1) := by decide +kernel
theorem dX13_type_15 : decode cX13_type 15 = .ok (.iconst 1, 1) := by decide +kernel
theorem dX13_type_16 : decode cX13_type 16 = .ok (.invokevirtual 79, 3) := by decide +kernel
theorem dX13_type_19 : decode cX13_type 19 = .ok (.ireturn, 1) := by decide +kernel
theorem dX13_type_20 : decode cX13_type 20 = .ok (.aload_n 0, 1) := by decide +kernel
theorem dX13_type_21 : decode cX13_type 21 = .ok (.getfield 33, 3) := by decide +kernel
theorem dX13_type_24 : decode cX13_type 24 = .ok (.aload_n 0, 1) := by decide +kernel
theorem dX13_type_25 : decode cX13_type 25 = .ok (.getfield 222, 3) := by decide +kernel
theorem dX13_type_28 : decode cX13_type 28 = .ok (.iload_n 1, 1) := by decide +kernel
theorem dX13_type_29 : decode cX13_type 29 = .ok (.castore, 1) := by decide +kernel
theorem dX13_type_30 : decode cX13_type 30 = .ok (.aload_n 0, 1) := by decide +kernel
theorem dX13_type_31 : decode cX13_type 31 = .ok (.dup, 1) := by decide +kernel
theorem dX13_type_32 : decode cX13_type 32 = .ok (.getfield 222, 3) := by decide +kernel
theorem dX13_type_35 : decode cX13_type 35 = .ok (.iconst 1, 1) := by decide +kernel
theorem dX13_type_36 : decode cX13_type 36 = .ok (.iadd, 1) := by decide +kernel
theorem dX13_type_37 : decode cX13_type 37 = .ok (.putfield 222, 3) := by decide +kernel
theorem dX13_type_40 : decode cX13_type 40 = .ok (.aload_n 0, 1) := by decide +kernel
theorem dX13_type_41 : decode cX13_type 41 = .ok (.getfield 222, 3) := by decide +kernel
theorem dX13_type_44 : decode cX13_type 44 = .ok (.ireturn, 1) := by decide +kernel
theorem dX13_nextChar_0 : decode cX13_nextChar 0 = .ok (.aload_n 0, 1) := by decide +kernel
theorem dX13_nextChar_1 : decode cX13_nextChar 1 = .ok (.getfield 225, 3) := by decide +kernel
theorem dX13_nextChar_4 : decode cX13_nextChar 4 = .ok (.aload_n 0, 1) := by decide +kernel
theorem dX13_nextChar_5 : decode cX13_nextChar 5 = .ok (.getfield 222, 3) := by decide +kernel
theorem dX13_nextChar_8 : decode cX13_nextChar 8 = .ok (.if_icmp .ge 15, 3) := by decide +kernel
theorem dX13_nextChar_11 : decode cX13_nextChar 11 = .ok (.aload_n 0, 1) := by decide +kernel
theorem dX13_nextChar_12 : decode cX13_nextChar 12 = .ok (.getfield 33, 3) := by decide +kernel
theorem dX13_nextChar_15 : decode cX13_nextChar 15 = .ok (.aload_n 0, 1) := by decide +kernel
theorem dX13_nextChar_16 : decode cX13_nextChar 16 = .ok (.getfield 225, 3) := by decide +kernel
theorem dX13_nextChar_19 : decode cX13_nextChar 19 = .ok (.caload, 1) := by decide +kernel
theorem dX13_nextChar_20 : decode cX13_nextChar 20 = .ok (.goto 4, 3) := by decide +kernel
theorem dX13_nextChar_23 : decode cX13_nextChar 23 = .ok (.iconst (-1), 1) := by decide +kernel
theorem dX13_nextChar_24 : decode cX13_nextChar 24 = .ok (.ireturn, 1) := by decide +kernel
theorem dX13_reads_0 : decode cX13_reads 0 = .ok (.aload_n 0, 1) := by decide +kernel
theorem dX13_reads_1 : decode cX13_reads 1 = .ok (.invokevirtual 228, 3) := by decide +kernel
theorem dX13_reads_4 : decode cX13_reads 4 = .ok (.iload_n 1, 1) := by decide +kernel
theorem dX13_reads_5 : decode cX13_reads 5 = .ok (.if_icmp .eq 5, 3) := by decide +kernel
theorem dX13_reads_8 : decode cX13_reads 8 = .ok (.iconst 0, 1) := by decide +kernel
theorem dX13_reads_9 : decode cX13_reads 9 = .ok (.ireturn, 1) := by decide +kernel
theorem dX13_reads_10 : decode cX13_reads 10 = .ok (.aload_n 0, 1) := by decide +kernel
theorem dX13_reads_11 : decode cX13_reads 11 = .ok (.dup, 1) := by decide +kernel
theorem dX13_reads_12 : decode cX13_reads 12 = .ok (.getfield 225, 3) := by decide +kernel
theorem dX13_reads_15 : decode cX13_reads 15 = .ok (.iconst 1, 1) := by decide +kernel
theorem dX13_reads_16 : decode cX13_reads 16 = .ok (.iadd, 1) := by decide +kernel
theorem dX13_reads_17 : decode cX13_reads 17 = .ok (.putfield 225, 3) := by decide +kernel
theorem dX13_reads_20 : decode cX13_reads 20 = .ok (.iconst 1, 1) := by decide +kernel
theorem dX13_reads_21 : decode cX13_reads 21 = .ok (.ireturn, 1) := by decide +kernel
theorem dX13_isDigitNext_0 : decode cX13_isDigitNext 0 = .ok (.aload_n 0, 1) := by decide +kernel
theorem dX13_isDigitNext_1 : decode cX13_isDigitNext 1 = .ok (.invokevirtual 228, 3) := by decide +kernel
theorem dX13_isDigitNext_4 : decode cX13_isDigitNext 4 = .ok (.bipush 48, 2) := by decide +kernel
theorem dX13_isDigitNext_6 : decode cX13_isDigitNext 6 = .ok (.bipush 57, 2) := by decide +kernel
theorem dX13_isDigitNext_8 : decode cX13_isDigitNext 8 = .ok (.invokestatic 57, 3) := by decide +kernel
theorem dX13_isDigitNext_11 : decode cX13_isDigitNext 11 = .ok (.ireturn, 1) := by decide +kernel
theorem dX13_readsDigit_0 : decode cX13_readsDigit 0 = .ok (.aload_n 0, 1) := by decide +kernel
theorem dX13_readsDigit_1 : decode cX13_readsDigit 1 = .ok (.invokevirtual 232, 3) := by decide +kernel
theorem dX13_readsDigit_4 : decode cX13_readsDigit 4 = .ok (.ifCond .ne 5, 3) := by decide +kernel
theorem dX13_readsDigit_7 : decode cX13_readsDigit 7 = .ok (.iconst 0, 1) := by decide +kernel
theorem dX13_readsDigit_8 : decode cX13_readsDigit 8 = .ok (.ireturn, 1) := by decide +kernel
theorem dX13_readsDigit_9 : decode cX13_readsDigit 9 = .ok (.aload_n 0, 1) := by decide +kernel
theorem dX13_readsDigit_10 : decode cX13_readsDigit 10 = .ok (.getfield 42, 3) := by decide +kernel
theorem dX13_readsDigit_13 : decode cX13_readsDigit 13 = .ok (.iload_n 1, 1) := by decide +kernel
theorem dX13_readsDigit_14 : decode cX13_readsDigit 14 = .ok (.aload_n 0, 1) := by decide +kernel
theorem dX13_readsDigit_15 : decode cX13_readsDigit 15 = .ok (.invokevirtual 228, 3) := by decide +kernel
theorem dX13_readsDigit_18 : decode cX13_readsDigit 18 = .ok (.bipush 48, 2) := by decide +kernel
theorem dX13_readsDigit_20 : decode cX13_readsDigit 20 = .ok (.isub, 1) := by decide +kernel
theorem dX13_readsDigit_21 : decode cX13_readsDigit 21 = .ok (.iastore, 1) := by decide +kernel
theorem dX13_readsDigit_22 : decode cX13_readsDigit 22 = .ok (.aload_n 0, 1) := by decide +kernel
theorem dX13_readsDigit_23 : decode cX13_readsDigit 23 = .ok (.dup, 1) := by decide +kernel
theorem dX13_readsDigit_24 : decode cX13_readsDigit 24 = .ok (.getfield 225, 3) := by decide +kernel
theorem dX13_readsDigit_27 : decode cX13_readsDigit 27 = .ok (.iconst 1, 1) := by decide +kernel
theorem dX13_readsDigit_28 : decode cX13_readsDigit 28 = .ok (.iadd, 1) := by decide +kernel
theorem dX13_readsDigit_29 : decode cX13_readsDigit 29 = .ok (.putfield 225, 3) := by decide +kernel
theorem dX13_readsDigit_32 : decode cX13_readsDigit 32 = .ok (.iconst 1, 1) := by decide +kernel
theorem dX13_readsDigit_33 : decode cX13_readsDigit 33 = .ok (.ireturn, 1) := by decide +kernel
theorem dX13_readsNumber_0 : decode cX13_readsNumber 0 = .ok (.aload_n 0, 1) := by decide +kernel
theorem dX13_readsNumber_1 : decode cX13_readsNumber 1 = .ok (.iload_n 1, 1) := by decide +kernel
theorem dX13_readsNumber_2 : decode cX13_readsNumber 2 = .ok (.invokevirtual 236, 3) := by decide +kernel
theorem dX13_readsNumber_5 : decode cX13_readsNumber 5 = .ok (.ifCond .ne 5, 3) := by decide +kernel
theorem dX13_readsNumber_8 : decode cX13_readsNumber 8 = .ok (.iconst 0, 1) := by decide +kernel
theorem dX13_readsNumber_9 : decode cX13_readsNumber 9 = .ok (.ireturn, 1) := by decide +kernel
theorem dX13_readsNumber_10 : decode cX13_readsNumber 10 = .ok (.iconst 0, 1) := by decide +kernel
theorem dX13_readsNumber_11 : decode cX13_readsNumber 11 = .ok (.istore_n 2, 1) := by decide +kernel
theorem dX13_readsNumber_12 : decode cX13_readsNumber 12 = .ok (.iload_n 2, 1) := by decide +kernel
theorem dX13_readsNumber_13 : decode cX13_readsNumber 13 = .ok (.iconst 2, 1) := by decide +kernel
theorem dX13_readsNumber_14 : decode cX13_readsNumber 14 = .ok (.if_icmp .ge 49, 3) := by decide +kernel
theorem dX13_readsNumber_17 : decode cX13_readsNumber 17 = .ok (.aload_n 0, 1) := by decide +kernel
theorem dX13_readsNumber_18 : decode cX13_readsNumber 18 = .ok (.invokevirtual 232, 3) := by decide +kernel
theorem dX13_readsNumber_21 : decode cX13_readsNumber 21 = .ok (.ifCond .eq 42, 3) := by decide +kernel
theorem dX13_readsNumber_24 : decode cX13_readsNumber 24 = .ok (.aload_n 0, 1) := by decide +kernel
theorem dX13_readsNumber_25 : decode cX13_readsNumber 25 = .ok (.getfield 42, 3) := by decide +kernel
theorem dX13_readsNumber_28 : decode cX13_readsNumber 28 = .ok (.iload_n 1, 1) := by decide +kernel
theorem dX13_readsNumber_29 : decode cX13_readsNumber 29 = .ok (.bipush 10, 2) := by decide +kernel
theorem dX13_readsNumber_31 : decode cX13_readsNumber 31 = .ok (.aload_n 0, 1) := by decide +kernel
theorem dX13_readsNumber_32 : decode cX13_readsNumber 32 = .ok (.getfield 42, 3) := by decide +kernel
theorem dX13_readsNumber_35 : decode cX13_readsNumber 35 = .ok (.iload_n 1, 1) := by decide +kernel
theorem dX13_readsNumber_36 : decode cX13_readsNumber 36 = .ok (.iaload, 1) := by decide +kernel
theorem dX13_readsNumber_37 : decode cX13_readsNumber 37 = .ok (.imul, 1) := by decide +kernel
theorem dX13_readsNumber_38 : decode cX13_readsNumber 38 = .ok (.aload_n 0, 1) := by decide +kernel
theorem dX13_readsNumber_39 : decode cX13_readsNumber 39 = .ok (.invokevirtual 228, 3) := by decide +kernel
theorem dX13_readsNumber_42 : decode cX13_readsNumber 42 = .ok (.iadd, 1) := by decide +kernel
theorem dX13_readsNumber_43 : decode cX13_readsNumber 43 = .ok (.bipush 48, 2) := by decide +kernel
theorem dX13_readsNumber_45 : decode cX13_readsNumber 45 = .ok (.isub, 1) := by decide +kernel
theorem dX13_readsNumber_46 : decode cX13_readsNumber 46 = .ok (.iastore, 1) := by decide +kernel
theorem dX13_readsNumber_47 : decode cX13_readsNumber 47 = .ok (.aload_n 0, 1) := by decide +kernel
theorem dX13_readsNumber_48 : decode cX13_readsNumber 48 = .ok (.dup, 1) := by decide +kernel
theorem dX13_readsNumber_49 : decode cX13_readsNumber 49 = .ok (.getfield 225, 3) := by decide +kernel
theorem dX13_readsNumber_52 : decode cX13_readsNumber 52 = .ok (.iconst 1, 1) := by decide +kernel
theorem dX13_readsNumber_53 : decode cX13_readsNumber 53 = .ok (.iadd, 1) := by decide +kernel
theorem dX13_readsNumber_54 : decode cX13_readsNumber 54 = .ok (.putfield 225, 3) := by decide +kernel
theorem dX13_readsNumber_57 : decode cX13_readsNumber 57 = .ok (.iinc 2 1, 3) := by decide +kernel
theorem dX13_readsNumber_60 : decode cX13_readsNumber 60 = .ok (.goto (-48), 3) := by decide +kernel
theorem dX13_readsNumber_63 : decode cX13_readsNumber 63 = .ok (.iconst 1, 1) := by decide +kernel
theorem dX13_readsNumber_64 : decode cX13_readsNumber 64 = .ok (.ireturn, 1) := by decide +kernel
theorem dX13_readsMaterial_0 : decode cX13_readsMaterial 0 = .ok (.aload_n 0, 1) := by decide +kernel
theorem dX13_readsMaterial_1 : decode cX13_readsMaterial 1 = .ok (.getfield 42, 3) := by decide +kernel
theorem dX13_readsMaterial_4 : decode cX13_readsMaterial 4 = .ok (.iconst 0, 1) := by decide +kernel
theorem dX13_readsMaterial_5 : decode cX13_readsMaterial 5 = .ok (.aload_n 0, 1) := by decide +kernel
theorem dX13_readsMaterial_6 : decode cX13_readsMaterial 6 = .ok (.invokevirtual 228, 3) := by decide +kernel
theorem dX13_readsMaterial_9 : decode cX13_readsMaterial 9 = .ok (.iastore, 1) := by decide +kernel
theorem dX13_readsMaterial_10 : decode cX13_readsMaterial 10 = .ok (.aload_n 0, 1) := by decide +kernel
theorem dX13_readsMaterial_11 : decode cX13_readsMaterial 11 = .ok (.getfield 42, 3) := by decide +kernel
theorem dX13_readsMaterial_14 : decode cX13_readsMaterial 14 = .ok (.iconst 0, 1) := by decide +kernel
theorem dX13_readsMaterial_15 : decode cX13_readsMaterial 15 = .ok (.iaload, 1) := by decide +kernel
theorem dX13_readsMaterial_16 : decode cX13_readsMaterial 16 = .ok (.invokestatic 72, 3) := by decide +kernel
theorem dX13_readsMaterial_19 : decode cX13_readsMaterial 19 = .ok (.ifCond .eq 20, 3) := by decide +kernel
theorem dX13_readsMaterial_22 : decode cX13_readsMaterial 22 = .ok (.aload_n 0, 1) := by decide +kernel
theorem dX13_readsMaterial_23 : decode cX13_readsMaterial 23 = .ok (.aload_n 0, 1) := by decide +kernel
theorem dX13_readsMaterial_24 : decode cX13_readsMaterial 24 = .ok (.getfield 42, 3) := by decide +kernel
theorem dX13_readsMaterial_27 : decode cX13_readsMaterial 27 = .ok (.iconst 0, 1) := by decide +kernel
theorem dX13_readsMaterial_28 : decode cX13_readsMaterial 28 = .ok (.iaload, 1) := by decide +kernel
theorem dX13_readsMaterial_29 : decode cX13_readsMaterial 29 = .ok (.invokevirtual 239, 3) := by decide +kernel
theorem dX13_readsMaterial_32 : decode cX13_readsMaterial 32 = .ok (.ifCond .eq 7, 3) := by decide +kernel
theorem dX13_readsMaterial_35 : decode cX13_readsMaterial 35 = .ok (.iconst 1, 1) := by decide +kernel
theorem dX13_readsMaterial_36 : decode cX13_readsMaterial 36 = .ok (.goto 4, 3) := by decide +kernel
theorem dX13_readsMaterial_39 : decode cX13_readsMaterial 39 = .ok (.iconst 0, 1) := by decide +kernel
theorem dX13_readsMaterial_40 : decode cX13_readsMaterial 40 = .ok (.ireturn, 1) := by decide +kernel
theorem dX13_readsOrder_0 : decode cX13_readsOrder 0 = .ok (.aload_n 0, 1) := by decide +kernel
theorem dX13_readsOrder_1 : decode cX13_readsOrder 1 = .ok (.bipush 114, 2) := by decide +kernel
theorem dX13_readsOrder_3 : decode cX13_readsOrder 3 = .ok (.invokevirtual 239, 3) := by decide +kernel
theorem dX13_readsOrder_6 : decode cX13_readsOrder 6 = .ok (.ifCond .eq 39, 3) := by decide +kernel
theorem dX13_readsOrder_9 : decode cX13_readsOrder 9 = .ok (.aload_n 0, 1) := by decide +kernel
theorem dX13_readsOrder_10 : decode cX13_readsOrder 10 = .ok (.bipush 100, 2) := by decide +kernel
theorem dX13_readsOrder_12 : decode cX13_readsOrder 12 = .ok (.invokevirtual 239, 3) := by decide +kernel
theorem dX13_readsOrder_15 : decode cX13_readsOrder 15 = .ok (.ifCond .eq 30, 3) := by decide +kernel
theorem dX13_readsOrder_18 : decode cX13_readsOrder 18 = .ok (.aload_n 0, 1) := by decide +kernel
theorem dX13_readsOrder_19 : decode cX13_readsOrder 19 = .ok (.bipush 101, 2) := by decide +kernel
theorem dX13_readsOrder_21 : decode cX13_readsOrder 21 = .ok (.invokevirtual 239, 3) := by decide +kernel
theorem dX13_readsOrder_24 : decode cX13_readsOrder 24 = .ok (.ifCond .eq 21, 3) := by decide +kernel
theorem dX13_readsOrder_27 : decode cX13_readsOrder 27 = .ok (.aload_n 0, 1) := by decide +kernel
theorem dX13_readsOrder_28 : decode cX13_readsOrder 28 = .ok (.bipush 114, 2) := by decide +kernel
theorem dX13_readsOrder_30 : decode cX13_readsOrder 30 = .ok (.invokevirtual 239, 3) := by decide +kernel
theorem dX13_readsOrder_33 : decode cX13_readsOrder 33 = .ok (.ifCond .eq 12, 3) := by decide +kernel
theorem dX13_readsOrder_36 : decode cX13_readsOrder 36 = .ok (.aload_n 0, 1) := by decide +kernel
theorem dX13_readsOrder_37 : decode cX13_readsOrder 37 = .ok (.bipush 32, 2) := by decide +kernel
theorem dX13_readsOrder_39 : decode cX13_readsOrder 39 = .ok (.invokevirtual 239, 3) := by decide +kernel
theorem dX13_readsOrder_42 : decode cX13_readsOrder 42 = .ok (.ifCond .ne 5, 3) := by decide +kernel
theorem dX13_readsOrder_45 : decode cX13_readsOrder 45 = .ok (.iconst 0, 1) := by decide +kernel
theorem dX13_readsOrder_46 : decode cX13_readsOrder 46 = .ok (.ireturn, 1) := by decide +kernel
theorem dX13_readsOrder_47 : decode cX13_readsOrder 47 = .ok (.aload_n 0, 1) := by decide +kernel
theorem dX13_readsOrder_48 : decode cX13_readsOrder 48 = .ok (.invokevirtual 242, 3) := by decide +kernel
theorem dX13_readsOrder_51 : decode cX13_readsOrder 51 = .ok (.ifCond .eq 32, 3) := by decide +kernel
theorem dX13_readsOrder_54 : decode cX13_readsOrder 54 = .ok (.aload_n 0, 1) := by decide +kernel
theorem dX13_readsOrder_55 : decode cX13_readsOrder 55 = .ok (.iconst 1, 1) := by decide +kernel
theorem dX13_readsOrder_56 : decode cX13_readsOrder 56 = .ok (.invokevirtual 245, 3) := by decide +kernel
theorem dX13_readsOrder_59 : decode cX13_readsOrder 59 = .ok (.ifCond .eq 24, 3) := by decide +kernel
theorem dX13_readsOrder_62 : decode cX13_readsOrder 62 = .ok (.aload_n 0, 1) := by decide +kernel
theorem dX13_readsOrder_63 : decode cX13_readsOrder 63 = .ok (.bipush 64, 2) := by decide +kernel
theorem dX13_readsOrder_65 : decode cX13_readsOrder 65 = .ok (.invokevirtual 239, 3) := by decide +kernel
theorem dX13_readsOrder_68 : decode cX13_readsOrder 68 = .ok (.ifCond .eq 15, 3) := by decide +kernel
theorem dX13_readsOrder_71 : decode cX13_readsOrder 71 = .ok (.aload_n 0, 1) := by decide +kernel
theorem dX13_readsOrder_72 : decode cX13_readsOrder 72 = .ok (.iconst 2, 1) := by decide +kernel
theorem dX13_readsOrder_73 : decode cX13_readsOrder 73 = .ok (.invokevirtual 245, 3) := by decide +kernel
theorem dX13_readsOrder_76 : decode cX13_readsOrder 76 = .ok (.ifCond .eq 7, 3) := by decide +kernel
theorem dX13_readsOrder_79 : decode cX13_readsOrder 79 = .ok (.iconst 1, 1) := by decide +kernel
theorem dX13_readsOrder_80 : decode cX13_readsOrder 80 = .ok (.goto 4, 3) := by decide +kernel
theorem dX13_readsOrder_83 : decode cX13_readsOrder 83 = .ok (.iconst 0, 1) := by decide +kernel
theorem dX13_readsOrder_84 : decode cX13_readsOrder 84 = .ok (.ireturn, 1) := by decide +kernel
theorem dX13_readsC_0 : decode cX13_readsC 0 = .ok (.aload_n 0, 1) := by decide +kernel
theorem dX13_readsC_1 : decode cX13_readsC 1 = .ok (.bipush 97, 2) := by decide +kernel
theorem dX13_readsC_3 : decode cX13_readsC 3 = .ok (.invokevirtual 239, 3) := by decide +kernel
theorem dX13_readsC_6 : decode cX13_readsC 6 = .ok (.ifCond .eq 62, 3) := by decide +kernel
theorem dX13_readsC_9 : decode cX13_readsC 9 = .ok (.aload_n 0, 1) := by decide +kernel
theorem dX13_readsC_10 : decode cX13_readsC 10 = .ok (.bipush 110, 2) := by decide +kernel
theorem dX13_readsC_12 : decode cX13_readsC 12 = .ok (.invokevirtual 239, 3) := by decide +kernel
theorem dX13_readsC_15 : decode cX13_readsC 15 = .ok (.ifCond .eq 51, 3) := by decide +kernel
theorem dX13_readsC_18 : decode cX13_readsC 18 = .ok (.aload_n 0, 1) := by decide +kernel
theorem dX13_readsC_19 : decode cX13_readsC 19 = .ok (.bipush 99, 2) := by decide +kernel
theorem dX13_readsC_21 : decode cX13_readsC 21 = .ok (.invokevirtual 239, 3) := by decide +kernel
theorem dX13_readsC_24 : decode cX13_readsC 24 = .ok (.ifCond .eq 42, 3) := by decide +kernel
theorem dX13_readsC_27 : decode cX13_readsC 27 = .ok (.aload_n 0, 1) := by decide +kernel
theorem dX13_readsC_28 : decode cX13_readsC 28 = .ok (.bipush 101, 2) := by decide +kernel
theorem dX13_readsC_30 : decode cX13_readsC 30 = .ok (.invokevirtual 239, 3) := by decide +kernel
theorem dX13_readsC_33 : decode cX13_readsC 33 = .ok (.ifCond .eq 33, 3) := by decide +kernel
theorem dX13_readsC_36 : decode cX13_readsC 36 = .ok (.aload_n 0, 1) := by decide +kernel
theorem dX13_readsC_37 : decode cX13_readsC 37 = .ok (.bipush 108, 2) := by decide +kernel
theorem dX13_readsC_39 : decode cX13_readsC 39 = .ok (.invokevirtual 239, 3) := by decide +kernel
theorem dX13_readsC_42 : decode cX13_readsC 42 = .ok (.ifCond .eq 24, 3) := by decide +kernel
theorem dX13_readsC_45 : decode cX13_readsC 45 = .ok (.aload_n 0, 1) := by decide +kernel
theorem dX13_readsC_46 : decode cX13_readsC 46 = .ok (.bipush 32, 2) := by decide +kernel
theorem dX13_readsC_48 : decode cX13_readsC 48 = .ok (.invokevirtual 239, 3) := by decide +kernel
theorem dX13_readsC_51 : decode cX13_readsC 51 = .ok (.ifCond .eq 15, 3) := by decide +kernel
theorem dX13_readsC_54 : decode cX13_readsC 54 = .ok (.aload_n 0, 1) := by decide +kernel
theorem dX13_readsC_55 : decode cX13_readsC 55 = .ok (.iconst 0, 1) := by decide +kernel
theorem dX13_readsC_56 : decode cX13_readsC 56 = .ok (.invokevirtual 245, 3) := by decide +kernel
theorem dX13_readsC_59 : decode cX13_readsC 59 = .ok (.ifCond .eq 7, 3) := by decide +kernel
theorem dX13_readsC_62 : decode cX13_readsC 62 = .ok (.iconst 1, 1) := by decide +kernel
theorem dX13_readsC_63 : decode cX13_readsC 63 = .ok (.goto 4, 3) := by decide +kernel
theorem dX13_readsC_66 : decode cX13_readsC 66 = .ok (.iconst 0, 1) := by decide +kernel
theorem dX13_readsC_67 : decode cX13_readsC 67 = .ok (.ireturn, 1) := by decide +kernel
theorem dX13_readsC_68 : decode cX13_readsC 68 = .ok (.aload_n 0, 1) := by decide +kernel
theorem dX13_readsC_69 : decode cX13_readsC 69 = .ok (.bipush 101, 2) := by decide +kernel
theorem dX13_readsC_71 : decode cX13_readsC 71 = .ok (.putfield 248, 3) := by decide +kernel
theorem dX13_readsC_74 : decode cX13_readsC 74 = .ok (.aload_n 0, 1) := by decide +kernel
theorem dX13_readsC_75 : decode cX13_readsC 75 = .ok (.bipush 108, 2) := by decide +kernel
theorem dX13_readsC_77 : decode cX13_readsC 77 = .ok (.invokevirtual 239, 3) := by decide +kernel
theorem dX13_readsC_80 : decode cX13_readsC 80 = .ok (.ifCond .eq 50, 3) := by decide +kernel
theorem dX13_readsC_83 : decode cX13_readsC 83 = .ok (.aload_n 0, 1) := by decide +kernel
theorem dX13_readsC_84 : decode cX13_readsC 84 = .ok (.bipush 101, 2) := by decide +kernel
theorem dX13_readsC_86 : decode cX13_readsC 86 = .ok (.invokevirtual 239, 3) := by decide +kernel
theorem dX13_readsC_89 : decode cX13_readsC 89 = .ok (.ifCond .eq 41, 3) := by decide +kernel
theorem dX13_readsC_92 : decode cX13_readsC 92 = .ok (.aload_n 0, 1) := by decide +kernel
theorem dX13_readsC_93 : decode cX13_readsC 93 = .ok (.bipush 97, 2) := by decide +kernel
theorem dX13_readsC_95 : decode cX13_readsC 95 = .ok (.invokevirtual 239, 3) := by decide +kernel
theorem dX13_readsC_98 : decode cX13_readsC 98 = .ok (.ifCond .eq 32, 3) := by decide +kernel
theorem dX13_readsC_101 : decode cX13_readsC 101 = .ok (.aload_n 0, 1) := by decide +kernel
theorem dX13_readsC_102 : decode cX13_readsC 102 = .ok (.bipush 114, 2) := by decide +kernel
theorem dX13_readsC_104 : decode cX13_readsC 104 = .ok (.invokevirtual 239, 3) := by decide +kernel
theorem dX13_readsC_107 : decode cX13_readsC 107 = .ok (.ifCond .eq 23, 3) := by decide +kernel
theorem dX13_readsC_110 : decode cX13_readsC 110 = .ok (.aload_n 0, 1) := by decide +kernel
theorem dX13_readsC_111 : decode cX13_readsC 111 = .ok (.bipush 32, 2) := by decide +kernel
theorem dX13_readsC_113 : decode cX13_readsC 113 = .ok (.invokevirtual 239, 3) := by decide +kernel
theorem dX13_readsC_116 : decode cX13_readsC 116 = .ok (.ifCond .eq 14, 3) := by decide +kernel
theorem dX13_readsC_119 : decode cX13_readsC 119 = .ok (.aload_n 0, 1) := by decide +kernel
theorem dX13_readsC_120 : decode cX13_readsC 120 = .ok (.invokevirtual 242, 3) := by decide +kernel
theorem dX13_readsC_123 : decode cX13_readsC 123 = .ok (.ifCond .eq 7, 3) := by decide +kernel
theorem dX13_readsC_126 : decode cX13_readsC 126 = .ok (.iconst 1, 1) := by decide +kernel
theorem dX13_readsC_127 : decode cX13_readsC 127 = .ok (.goto 4, 3) := by decide +kernel
theorem dX13_readsC_130 : decode cX13_readsC 130 = .ok (.iconst 0, 1) := by decide +kernel
theorem dX13_readsC_131 : decode cX13_readsC 131 = .ok (.ireturn, 1) := by decide +kernel
theorem dX13_readsR_0 : decode cX13_readsR 0 = .ok (.aload_n 0, 1) := by decide +kernel
theorem dX13_readsR_1 : decode cX13_readsR 1 = .ok (.bipush 101, 2) := by decide +kernel
theorem dX13_readsR_3 : decode cX13_readsR 3 = .ok (.invokevirtual 239, 3) := by decide +kernel
theorem dX13_readsR_6 : decode cX13_readsR 6 = .ok (.ifCond .eq 62, 3) := by decide +kernel
theorem dX13_readsR_9 : decode cX13_readsR 9 = .ok (.aload_n 0, 1) := by decide +kernel
theorem dX13_readsR_10 : decode cX13_readsR 10 = .ok (.bipush 116, 2) := by decide +kernel
theorem dX13_readsR_12 : decode cX13_readsR 12 = .ok (.invokevirtual 239, 3) := by decide +kernel
theorem dX13_readsR_15 : decode cX13_readsR 15 = .ok (.ifCond .eq 51, 3) := by decide +kernel
theorem dX13_readsR_18 : decode cX13_readsR 18 = .ok (.aload_n 0, 1) := by decide +kernel
theorem dX13_readsR_19 : decode cX13_readsR 19 = .ok (.bipush 105, 2) := by decide +kernel
theorem dX13_readsR_21 : decode cX13_readsR 21 = .ok (.invokevirtual 239, 3) := by decide +kernel
theorem dX13_readsR_24 : decode cX13_readsR 24 = .ok (.ifCond .eq 42, 3) := by decide +kernel
theorem dX13_readsR_27 : decode cX13_readsR 27 = .ok (.aload_n 0, 1) := by decide +kernel
theorem dX13_readsR_28 : decode cX13_readsR 28 = .ok (.bipush 114, 2) := by decide +kernel
theorem dX13_readsR_30 : decode cX13_readsR 30 = .ok (.invokevirtual 239, 3) := by decide +kernel
theorem dX13_readsR_33 : decode cX13_readsR 33 = .ok (.ifCond .eq 33, 3) := by decide +kernel
theorem dX13_readsR_36 : decode cX13_readsR 36 = .ok (.aload_n 0, 1) := by decide +kernel
theorem dX13_readsR_37 : decode cX13_readsR 37 = .ok (.bipush 101, 2) := by decide +kernel
theorem dX13_readsR_39 : decode cX13_readsR 39 = .ok (.invokevirtual 239, 3) := by decide +kernel
theorem dX13_readsR_42 : decode cX13_readsR 42 = .ok (.ifCond .eq 24, 3) := by decide +kernel
theorem dX13_readsR_45 : decode cX13_readsR 45 = .ok (.aload_n 0, 1) := by decide +kernel
theorem dX13_readsR_46 : decode cX13_readsR 46 = .ok (.bipush 32, 2) := by decide +kernel
theorem dX13_readsR_48 : decode cX13_readsR 48 = .ok (.invokevirtual 239, 3) := by decide +kernel
theorem dX13_readsR_51 : decode cX13_readsR 51 = .ok (.ifCond .eq 15, 3) := by decide +kernel
theorem dX13_readsR_54 : decode cX13_readsR 54 = .ok (.aload_n 0, 1) := by decide +kernel
theorem dX13_readsR_55 : decode cX13_readsR 55 = .ok (.iconst 0, 1) := by decide +kernel
theorem dX13_readsR_56 : decode cX13_readsR 56 = .ok (.invokevirtual 245, 3) := by decide +kernel
theorem dX13_readsR_59 : decode cX13_readsR 59 = .ok (.ifCond .eq 7, 3) := by decide +kernel
theorem dX13_readsR_62 : decode cX13_readsR 62 = .ok (.iconst 1, 1) := by decide +kernel
theorem dX13_readsR_63 : decode cX13_readsR 63 = .ok (.goto 4, 3) := by decide +kernel
theorem dX13_readsR_66 : decode cX13_readsR 66 = .ok (.iconst 0, 1) := by decide +kernel
theorem dX13_readsR_67 : decode cX13_readsR 67 = .ok (.ireturn, 1) := by decide +kernel
theorem dX13_readsR_68 : decode cX13_readsR 68 = .ok (.aload_n 0, 1) := by decide +kernel
theorem dX13_readsR_69 : decode cX13_readsR 69 = .ok (.bipush 117, 2) := by decide +kernel
theorem dX13_readsR_71 : decode cX13_readsR 71 = .ok (.putfield 248, 3) := by decide +kernel
theorem dX13_readsR_74 : decode cX13_readsR 74 = .ok (.aload_n 0, 1) := by decide +kernel
theorem dX13_readsR_75 : decode cX13_readsR 75 = .ok (.bipush 117, 2) := by decide +kernel
theorem dX13_readsR_77 : decode cX13_readsR 77 = .ok (.invokevirtual 239, 3) := by decide +kernel
theorem dX13_readsR_80 : decode cX13_readsR 80 = .ok (.ifCond .eq 30, 3) := by decide +kernel
theorem dX13_readsR_83 : decode cX13_readsR 83 = .ok (.aload_n 0, 1) := by decide +kernel
theorem dX13_readsR_84 : decode cX13_readsR 84 = .ok (.bipush 108, 2) := by decide +kernel
theorem dX13_readsR_86 : decode cX13_readsR 86 = .ok (.invokevirtual 239, 3) := by decide +kernel
theorem dX13_readsR_89 : decode cX13_readsR 89 = .ok (.ifCond .eq 21, 3) := by decide +kernel
theorem dX13_readsR_92 : decode cX13_readsR 92 = .ok (.aload_n 0, 1) := by decide +kernel
theorem dX13_readsR_93 : decode cX13_readsR 93 = .ok (.bipush 101, 2) := by decide +kernel
theorem dX13_readsR_95 : decode cX13_readsR 95 = .ok (.invokevirtual 239, 3) := by decide +kernel
theorem dX13_readsR_98 : decode cX13_readsR 98 = .ok (.ifCond .eq 12, 3) := by decide +kernel
theorem dX13_readsR_101 : decode cX13_readsR 101 = .ok (.aload_n 0, 1) := by decide +kernel
theorem dX13_readsR_102 : decode cX13_readsR 102 = .ok (.bipush 32, 2) := by decide +kernel
theorem dX13_readsR_104 : decode cX13_readsR 104 = .ok (.invokevirtual 239, 3) := by decide +kernel
theorem dX13_readsR_107 : decode cX13_readsR 107 = .ok (.ifCond .ne 5, 3) := by decide +kernel
theorem dX13_readsR_110 : decode cX13_readsR 110 = .ok (.iconst 0, 1) := by decide +kernel
theorem dX13_readsR_111 : decode cX13_readsR 111 = .ok (.ireturn, 1) := by decide +kernel
theorem dX13_readsR_112 : decode cX13_readsR 112 = .ok (.aload_n 0, 1) := by decide +kernel
theorem dX13_readsR_113 : decode cX13_readsR 113 = .ok (.getfield 42, 3) := by decide +kernel
theorem dX13_readsR_116 : decode cX13_readsR 116 = .ok (.iconst 0, 1) := by decide +kernel
theorem dX13_readsR_117 : decode cX13_readsR 117 = .ok (.aload_n 0, 1) := by decide +kernel
theorem dX13_readsR_118 : decode cX13_readsR 118 = .ok (.invokevirtual 228, 3) := by decide +kernel
theorem dX13_readsR_121 : decode cX13_readsR 121 = .ok (.iastore, 1) := by decide +kernel
theorem dX13_readsR_122 : decode cX13_readsR 122 = .ok (.aload_n 0, 1) := by decide +kernel
theorem dX13_readsR_123 : decode cX13_readsR 123 = .ok (.bipush 98, 2) := by decide +kernel
theorem dX13_readsR_125 : decode cX13_readsR 125 = .ok (.invokevirtual 239, 3) := by decide +kernel
theorem dX13_readsR_128 : decode cX13_readsR 128 = .ok (.ifCond .ne 21, 3) := by decide +kernel
theorem dX13_readsR_131 : decode cX13_readsR 131 = .ok (.aload_n 0, 1) := by decide +kernel
theorem dX13_readsR_132 : decode cX13_readsR 132 = .ok (.bipush 119, 2) := by decide +kernel
theorem dX13_readsR_134 : decode cX13_readsR 134 = .ok (.invokevirtual 239, 3) := by decide +kernel
theorem dX13_readsR_137 : decode cX13_readsR 137 = .ok (.ifCond .ne 12, 3) := by decide +kernel
theorem dX13_readsR_140 : decode cX13_readsR 140 = .ok (.aload_n 0, 1) := by decide +kernel
theorem dX13_readsR_141 : decode cX13_readsR 141 = .ok (.bipush 102, 2) := by decide +kernel
theorem dX13_readsR_143 : decode cX13_readsR 143 = .ok (.invokevirtual 239, 3) := by decide +kernel
theorem dX13_readsR_146 : decode cX13_readsR 146 = .ok (.ifCond .eq 7, 3) := by decide +kernel
theorem dX13_readsR_149 : decode cX13_readsR 149 = .ok (.iconst 1, 1) := by decide +kernel
theorem dX13_readsR_150 : decode cX13_readsR 150 = .ok (.goto 4, 3) := by decide +kernel
theorem dX13_readsR_153 : decode cX13_readsR 153 = .ok (.iconst 0, 1) := by decide +kernel
theorem dX13_readsR_154 : decode cX13_readsR 154 = .ok (.ireturn, 1) := by decide +kernel
theorem dX13_readsCommand_0 : decode cX13_readsCommand 0 = .ok (.aload_n 0, 1) := by decide +kernel
theorem dX13_readsCommand_1 : decode cX13_readsCommand 1 = .ok (.aload_n 0, 1) := by decide +kernel
theorem dX13_readsCommand_2 : decode cX13_readsCommand 2 = .ok (.invokevirtual 228, 3) := by decide +kernel
theorem dX13_readsCommand_5 : decode cX13_readsCommand 5 = .ok (.putfield 248, 3) := by decide +kernel
theorem dX13_readsCommand_8 : decode cX13_readsCommand 8 = .ok (.aload_n 0, 1) := by decide +kernel
theorem dX13_readsCommand_9 : decode cX13_readsCommand 9 = .ok (.bipush 115, 2) := by decide +kernel
theorem dX13_readsCommand_11 : decode cX13_readsCommand 11 = .ok (.invokevirtual 239, 3) := by decide +kernel
theorem dX13_readsCommand_14 : decode cX13_readsCommand 14 = .ok (.ifCond .eq 69, 3) := by decide +kernel
theorem dX13_readsCommand_17 : decode cX13_readsCommand 17 = .ok (.aload_n 0, 1) := by decide +kernel
theorem dX13_readsCommand_18 : decode cX13_readsCommand 18 = .ok (.bipush 112, 2) := by decide +kernel
theorem dX13_readsCommand_20 : decode cX13_readsCommand 20 = .ok (.invokevirtual 239, 3) := by decide +kernel
theorem dX13_readsCommand_23 : decode cX13_readsCommand 23 = .ok (.ifCond .eq 58, 3) := by decide +kernel
theorem dX13_readsCommand_26 : decode cX13_readsCommand 26 = .ok (.aload_n 0, 1) := by decide +kernel
theorem dX13_readsCommand_27 : decode cX13_readsCommand 27 = .ok (.bipush 111, 2) := by decide +kernel
theorem dX13_readsCommand_29 : decode cX13_readsCommand 29 = .ok (.invokevirtual 239, 3) := by decide +kernel
theorem dX13_readsCommand_32 : decode cX13_readsCommand 32 = .ok (.ifCond .eq 49, 3) := by decide +kernel
theorem dX13_readsCommand_35 : decode cX13_readsCommand 35 = .ok (.aload_n 0, 1) := by decide +kernel
theorem dX13_readsCommand_36 : decode cX13_readsCommand 36 = .ok (.bipush 111, 2) := by decide +kernel
theorem dX13_readsCommand_38 : decode cX13_readsCommand 38 = .ok (.invokevirtual 239, 3) := by decide +kernel
theorem dX13_readsCommand_41 : decode cX13_readsCommand 41 = .ok (.ifCond .eq 40, 3) := by decide +kernel
theorem dX13_readsCommand_44 : decode cX13_readsCommand 44 = .ok (.aload_n 0, 1) := by decide +kernel
theorem dX13_readsCommand_45 : decode cX13_readsCommand 45 = .ok (.bipush 108, 2) := by decide +kernel
theorem dX13_readsCommand_47 : decode cX13_readsCommand 47 = .ok (.invokevirtual 239, 3) := by decide +kernel
theorem dX13_readsCommand_50 : decode cX13_readsCommand 50 = .ok (.ifCond .eq 31, 3) := by decide +kernel
theorem dX13_readsCommand_53 : decode cX13_readsCommand 53 = .ok (.aload_n 0, 1) := by decide +kernel
theorem dX13_readsCommand_54 : decode cX13_readsCommand 54 = .ok (.bipush 32, 2) := by decide +kernel
theorem dX13_readsCommand_56 : decode cX13_readsCommand 56 = .ok (.invokevirtual 239, 3) := by decide +kernel
theorem dX13_readsCommand_59 : decode cX13_readsCommand 59 = .ok (.ifCond .eq 22, 3) := by decide +kernel
theorem dX13_readsCommand_62 : decode cX13_readsCommand 62 = .ok (.aload_n 0, 1) := by decide +kernel
theorem dX13_readsCommand_63 : decode cX13_readsCommand 63 = .ok (.invokevirtual 242, 3) := by decide +kernel
theorem dX13_readsCommand_66 : decode cX13_readsCommand 66 = .ok (.ifCond .eq 15, 3) := by decide +kernel
theorem dX13_readsCommand_69 : decode cX13_readsCommand 69 = .ok (.aload_n 0, 1) := by decide +kernel
theorem dX13_readsCommand_70 : decode cX13_readsCommand 70 = .ok (.iconst 1, 1) := by decide +kernel
theorem dX13_readsCommand_71 : decode cX13_readsCommand 71 = .ok (.invokevirtual 245, 3) := by decide +kernel
theorem dX13_readsCommand_74 : decode cX13_readsCommand 74 = .ok (.ifCond .eq 7, 3) := by decide +kernel
theorem dX13_readsCommand_77 : decode cX13_readsCommand 77 = .ok (.iconst 1, 1) := by decide +kernel
theorem dX13_readsCommand_78 : decode cX13_readsCommand 78 = .ok (.goto 4, 3) := by decide +kernel
theorem dX13_readsCommand_81 : decode cX13_readsCommand 81 = .ok (.iconst 0, 1) := by decide +kernel
theorem dX13_readsCommand_82 : decode cX13_readsCommand 82 = .ok (.ireturn, 1) := by decide +kernel
theorem dX13_readsCommand_83 : decode cX13_readsCommand 83 = .ok (.aload_n 0, 1) := by decide +kernel
theorem dX13_readsCommand_84 : decode cX13_readsCommand 84 = .ok (.bipush 111, 2) := by decide +kernel
theorem dX13_readsCommand_86 : decode cX13_readsCommand 86 = .ok (.invokevirtual 239, 3) := by decide +kernel
theorem dX13_readsCommand_89 : decode cX13_readsCommand 89 = .ok (.ifCond .eq 8, 3) := by decide +kernel
theorem dX13_readsCommand_92 : decode cX13_readsCommand 92 = .ok (.aload_n 0, 1) := by decide +kernel
theorem dX13_readsCommand_93 : decode cX13_readsCommand 93 = .ok (.invokevirtual 251, 3) := by decide +kernel
theorem dX13_readsCommand_96 : decode cX13_readsCommand 96 = .ok (.ireturn, 1) := by decide +kernel
theorem dX13_readsCommand_97 : decode cX13_readsCommand 97 = .ok (.aload_n 0, 1) := by decide +kernel
theorem dX13_readsCommand_98 : decode cX13_readsCommand 98 = .ok (.bipush 99, 2) := by decide +kernel
theorem dX13_readsCommand_100 : decode cX13_readsCommand 100 = .ok (.invokevirtual 239, 3) := by decide +kernel
theorem dX13_readsCommand_103 : decode cX13_readsCommand 103 = .ok (.ifCond .eq 8, 3) := by decide +kernel
theorem dX13_readsCommand_106 : decode cX13_readsCommand 106 = .ok (.aload_n 0, 1) := by decide +kernel
theorem dX13_readsCommand_107 : decode cX13_readsCommand 107 = .ok (.invokevirtual 254, 3) := by decide +kernel
theorem dX13_readsCommand_110 : decode cX13_readsCommand 110 = .ok (.ireturn, 1) := by decide +kernel
theorem dX13_readsCommand_111 : decode cX13_readsCommand 111 = .ok (.aload_n 0, 1) := by decide +kernel
theorem dX13_readsCommand_112 : decode cX13_readsCommand 112 = .ok (.bipush 102, 2) := by decide +kernel
theorem dX13_readsCommand_114 : decode cX13_readsCommand 114 = .ok (.invokevirtual 239, 3) := by decide +kernel
theorem dX13_readsCommand_117 : decode cX13_readsCommand 117 = .ok (.ifCond .eq 53, 3) := by decide +kernel
theorem dX13_readsCommand_120 : decode cX13_readsCommand 120 = .ok (.aload_n 0, 1) := by decide +kernel
theorem dX13_readsCommand_121 : decode cX13_readsCommand 121 = .ok (.bipush 105, 2) := by decide +kernel
theorem dX13_readsCommand_123 : decode cX13_readsCommand 123 = .ok (.invokevirtual 239, 3) := by decide +kernel
theorem dX13_readsCommand_126 : decode cX13_readsCommand 126 = .ok (.ifCond .eq 42, 3) := by decide +kernel
theorem dX13_readsCommand_129 : decode cX13_readsCommand 129 = .ok (.aload_n 0, 1) := by decide +kernel
theorem dX13_readsCommand_130 : decode cX13_readsCommand 130 = .ok (.bipush 108, 2) := by decide +kernel
theorem dX13_readsCommand_132 : decode cX13_readsCommand 132 = .ok (.invokevirtual 239, 3) := by decide +kernel
theorem dX13_readsCommand_135 : decode cX13_readsCommand 135 = .ok (.ifCond .eq 33, 3) := by decide +kernel
theorem dX13_readsCommand_138 : decode cX13_readsCommand 138 = .ok (.aload_n 0, 1) := by decide +kernel
theorem dX13_readsCommand_139 : decode cX13_readsCommand 139 = .ok (.bipush 108, 2) := by decide +kernel
theorem dX13_readsCommand_141 : decode cX13_readsCommand 141 = .ok (.invokevirtual 239, 3) := by decide +kernel
theorem dX13_readsCommand_144 : decode cX13_readsCommand 144 = .ok (.ifCond .eq 24, 3) := by decide +kernel
theorem dX13_readsCommand_147 : decode cX13_readsCommand 147 = .ok (.aload_n 0, 1) := by decide +kernel
theorem dX13_readsCommand_148 : decode cX13_readsCommand 148 = .ok (.bipush 32, 2) := by decide +kernel
theorem dX13_readsCommand_150 : decode cX13_readsCommand 150 = .ok (.invokevirtual 239, 3) := by decide +kernel
theorem dX13_readsCommand_153 : decode cX13_readsCommand 153 = .ok (.ifCond .eq 15, 3) := by decide +kernel
theorem dX13_readsCommand_156 : decode cX13_readsCommand 156 = .ok (.aload_n 0, 1) := by decide +kernel
theorem dX13_readsCommand_157 : decode cX13_readsCommand 157 = .ok (.iconst 0, 1) := by decide +kernel
theorem dX13_readsCommand_158 : decode cX13_readsCommand 158 = .ok (.invokevirtual 245, 3) := by decide +kernel
theorem dX13_readsCommand_161 : decode cX13_readsCommand 161 = .ok (.ifCond .eq 7, 3) := by decide +kernel
theorem dX13_readsCommand_164 : decode cX13_readsCommand 164 = .ok (.iconst 1, 1) := by decide +kernel
theorem dX13_readsCommand_165 : decode cX13_readsCommand 165 = .ok (.goto 4, 3) := by decide +kernel
theorem dX13_readsCommand_168 : decode cX13_readsCommand 168 = .ok (.iconst 0, 1) := by decide +kernel
theorem dX13_readsCommand_169 : decode cX13_readsCommand 169 = .ok (.ireturn, 1) := by decide +kernel
theorem dX13_readsCommand_170 : decode cX13_readsCommand 170 = .ok (.aload_n 0, 1) := by decide +kernel
theorem dX13_readsCommand_171 : decode cX13_readsCommand 171 = .ok (.bipush 100, 2) := by decide +kernel
theorem dX13_readsCommand_173 : decode cX13_readsCommand 173 = .ok (.invokevirtual 239, 3) := by decide +kernel
theorem dX13_readsCommand_176 : decode cX13_readsCommand 176 = .ok (.ifCond .eq 44, 3) := by decide +kernel
theorem dX13_readsCommand_179 : decode cX13_readsCommand 179 = .ok (.aload_n 0, 1) := by decide +kernel
theorem dX13_readsCommand_180 : decode cX13_readsCommand 180 = .ok (.bipush 117, 2) := by decide +kernel
theorem dX13_readsCommand_182 : decode cX13_readsCommand 182 = .ok (.invokevirtual 239, 3) := by decide +kernel
theorem dX13_readsCommand_185 : decode cX13_readsCommand 185 = .ok (.ifCond .eq 33, 3) := by decide +kernel
theorem dX13_readsCommand_188 : decode cX13_readsCommand 188 = .ok (.aload_n 0, 1) := by decide +kernel
theorem dX13_readsCommand_189 : decode cX13_readsCommand 189 = .ok (.bipush 101, 2) := by decide +kernel
theorem dX13_readsCommand_191 : decode cX13_readsCommand 191 = .ok (.invokevirtual 239, 3) := by decide +kernel
theorem dX13_readsCommand_194 : decode cX13_readsCommand 194 = .ok (.ifCond .eq 24, 3) := by decide +kernel
theorem dX13_readsCommand_197 : decode cX13_readsCommand 197 = .ok (.aload_n 0, 1) := by decide +kernel
theorem dX13_readsCommand_198 : decode cX13_readsCommand 198 = .ok (.bipush 32, 2) := by decide +kernel
theorem dX13_readsCommand_200 : decode cX13_readsCommand 200 = .ok (.invokevirtual 239, 3) := by decide +kernel
theorem dX13_readsCommand_203 : decode cX13_readsCommand 203 = .ok (.ifCond .eq 15, 3) := by decide +kernel
theorem dX13_readsCommand_206 : decode cX13_readsCommand 206 = .ok (.aload_n 0, 1) := by decide +kernel
theorem dX13_readsCommand_207 : decode cX13_readsCommand 207 = .ok (.iconst 0, 1) := by decide +kernel
theorem dX13_readsCommand_208 : decode cX13_readsCommand 208 = .ok (.invokevirtual 245, 3) := by decide +kernel
theorem dX13_readsCommand_211 : decode cX13_readsCommand 211 = .ok (.ifCond .eq 7, 3) := by decide +kernel
theorem dX13_readsCommand_214 : decode cX13_readsCommand 214 = .ok (.iconst 1, 1) := by decide +kernel
theorem dX13_readsCommand_215 : decode cX13_readsCommand 215 = .ok (.goto 4, 3) := by decide +kernel
theorem dX13_readsCommand_218 : decode cX13_readsCommand 218 = .ok (.iconst 0, 1) := by decide +kernel
theorem dX13_readsCommand_219 : decode cX13_readsCommand 219 = .ok (.ireturn, 1) := by decide +kernel
theorem dX13_readsCommand_220 : decode cX13_readsCommand 220 = .ok (.aload_n 0, 1) := by decide +kernel
theorem dX13_readsCommand_221 : decode cX13_readsCommand 221 = .ok (.bipush 114, 2) := by decide +kernel
theorem dX13_readsCommand_223 : decode cX13_readsCommand 223 = .ok (.invokevirtual 239, 3) := by decide +kernel
theorem dX13_readsCommand_226 : decode cX13_readsCommand 226 = .ok (.ifCond .eq 8, 3) := by decide +kernel
theorem dX13_readsCommand_229 : decode cX13_readsCommand 229 = .ok (.aload_n 0, 1) := by decide +kernel
theorem dX13_readsCommand_230 : decode cX13_readsCommand 230 = .ok (.invokevirtual 257, 3) := by decide +kernel
theorem dX13_readsCommand_233 : decode cX13_readsCommand 233 = .ok (.ireturn, 1) := by decide +kernel
theorem dX13_readsCommand_234 : decode cX13_readsCommand 234 = .ok (.aload_n 0, 1) := by decide +kernel
theorem dX13_readsCommand_235 : decode cX13_readsCommand 235 = .ok (.bipush 107, 2) := by decide +kernel
theorem dX13_readsCommand_237 : decode cX13_readsCommand 237 = .ok (.invokevirtual 239, 3) := by decide +kernel
theorem dX13_readsCommand_240 : decode cX13_readsCommand 240 = .ok (.ifCond .eq 53, 3) := by decide +kernel
theorem dX13_readsCommand_243 : decode cX13_readsCommand 243 = .ok (.aload_n 0, 1) := by decide +kernel
theorem dX13_readsCommand_244 : decode cX13_readsCommand 244 = .ok (.bipush 101, 2) := by decide +kernel
theorem dX13_readsCommand_246 : decode cX13_readsCommand 246 = .ok (.invokevirtual 239, 3) := by decide +kernel
theorem dX13_readsCommand_249 : decode cX13_readsCommand 249 = .ok (.ifCond .eq 42, 3) := by decide +kernel
theorem dX13_readsCommand_252 : decode cX13_readsCommand 252 = .ok (.aload_n 0, 1) := by decide +kernel
theorem dX13_readsCommand_253 : decode cX13_readsCommand 253 = .ok (.bipush 114, 2) := by decide +kernel
theorem dX13_readsCommand_255 : decode cX13_readsCommand 255 = .ok (.invokevirtual 239, 3) := by decide +kernel
theorem dX13_readsCommand_258 : decode cX13_readsCommand 258 = .ok (.ifCond .eq 33, 3) := by decide +kernel
theorem dX13_readsCommand_261 : decode cX13_readsCommand 261 = .ok (.aload_n 0, 1) := by decide +kernel
theorem dX13_readsCommand_262 : decode cX13_readsCommand 262 = .ok (.bipush 102, 2) := by decide +kernel
theorem dX13_readsCommand_264 : decode cX13_readsCommand 264 = .ok (.invokevirtual 239, 3) := by decide +kernel
theorem dX13_readsCommand_267 : decode cX13_readsCommand 267 = .ok (.ifCond .eq 24, 3) := by decide +kernel
theorem dX13_readsCommand_270 : decode cX13_readsCommand 270 = .ok (.aload_n 0, 1) := by decide +kernel
theorem dX13_readsCommand_271 : decode cX13_readsCommand 271 = .ok (.bipush 32, 2) := by decide +kernel
theorem dX13_readsCommand_273 : decode cX13_readsCommand 273 = .ok (.invokevirtual 239, 3) := by decide +kernel
theorem dX13_readsCommand_276 : decode cX13_readsCommand 276 = .ok (.ifCond .eq 15, 3) := by decide +kernel
theorem dX13_readsCommand_279 : decode cX13_readsCommand 279 = .ok (.aload_n 0, 1) := by decide +kernel
theorem dX13_readsCommand_280 : decode cX13_readsCommand 280 = .ok (.iconst 0, 1) := by decide +kernel
theorem dX13_readsCommand_281 : decode cX13_readsCommand 281 = .ok (.invokevirtual 236, 3) := by decide +kernel
theorem dX13_readsCommand_284 : decode cX13_readsCommand 284 = .ok (.ifCond .eq 7, 3) := by decide +kernel
theorem dX13_readsCommand_287 : decode cX13_readsCommand 287 = .ok (.iconst 1, 1) := by decide +kernel
theorem dX13_readsCommand_288 : decode cX13_readsCommand 288 = .ok (.goto 4, 3) := by decide +kernel
theorem dX13_readsCommand_291 : decode cX13_readsCommand 291 = .ok (.iconst 0, 1) := by decide +kernel
theorem dX13_readsCommand_292 : decode cX13_readsCommand 292 = .ok (.ireturn, 1) := by decide +kernel
theorem dX13_readsCommand_293 : decode cX13_readsCommand 293 = .ok (.aload_n 0, 1) := by decide +kernel
theorem dX13_readsCommand_294 : decode cX13_readsCommand 294 = .ok (.bipush 108, 2) := by decide +kernel
theorem dX13_readsCommand_296 : decode cX13_readsCommand 296 = .ok (.invokevirtual 239, 3) := by decide +kernel
theorem dX13_readsCommand_299 : decode cX13_readsCommand 299 = .ok (.ifCond .eq 60, 3) := by decide +kernel
theorem dX13_readsCommand_302 : decode cX13_readsCommand 302 = .ok (.aload_n 0, 1) := by decide +kernel
theorem dX13_readsCommand_303 : decode cX13_readsCommand 303 = .ok (.bipush 105, 2) := by decide +kernel
theorem dX13_readsCommand_305 : decode cX13_readsCommand 305 = .ok (.invokevirtual 239, 3) := by decide +kernel
theorem dX13_readsCommand_308 : decode cX13_readsCommand 308 = .ok (.ifCond .eq 51, 3) := by decide +kernel
theorem dX13_readsCommand_311 : decode cX13_readsCommand 311 = .ok (.aload_n 0, 1) := by decide +kernel
theorem dX13_readsCommand_312 : decode cX13_readsCommand 312 = .ok (.bipush 109, 2) := by decide +kernel
theorem dX13_readsCommand_314 : decode cX13_readsCommand 314 = .ok (.invokevirtual 239, 3) := by decide +kernel
theorem dX13_readsCommand_317 : decode cX13_readsCommand 317 = .ok (.ifCond .eq 42, 3) := by decide +kernel
theorem dX13_readsCommand_320 : decode cX13_readsCommand 320 = .ok (.aload_n 0, 1) := by decide +kernel
theorem dX13_readsCommand_321 : decode cX13_readsCommand 321 = .ok (.bipush 105, 2) := by decide +kernel
theorem dX13_readsCommand_323 : decode cX13_readsCommand 323 = .ok (.invokevirtual 239, 3) := by decide +kernel
theorem dX13_readsCommand_326 : decode cX13_readsCommand 326 = .ok (.ifCond .eq 33, 3) := by decide +kernel
theorem dX13_readsCommand_329 : decode cX13_readsCommand 329 = .ok (.aload_n 0, 1) := by decide +kernel
theorem dX13_readsCommand_330 : decode cX13_readsCommand 330 = .ok (.bipush 116, 2) := by decide +kernel
theorem dX13_readsCommand_332 : decode cX13_readsCommand 332 = .ok (.invokevirtual 239, 3) := by decide +kernel
theorem dX13_readsCommand_335 : decode cX13_readsCommand 335 = .ok (.ifCond .eq 24, 3) := by decide +kernel
theorem dX13_readsCommand_338 : decode cX13_readsCommand 338 = .ok (.aload_n 0, 1) := by decide +kernel
theorem dX13_readsCommand_339 : decode cX13_readsCommand 339 = .ok (.bipush 32, 2) := by decide +kernel
theorem dX13_readsCommand_341 : decode cX13_readsCommand 341 = .ok (.invokevirtual 239, 3) := by decide +kernel
theorem dX13_readsCommand_344 : decode cX13_readsCommand 344 = .ok (.ifCond .eq 15, 3) := by decide +kernel
theorem dX13_readsCommand_347 : decode cX13_readsCommand 347 = .ok (.aload_n 0, 1) := by decide +kernel
theorem dX13_readsCommand_348 : decode cX13_readsCommand 348 = .ok (.iconst 0, 1) := by decide +kernel
theorem dX13_readsCommand_349 : decode cX13_readsCommand 349 = .ok (.invokevirtual 245, 3) := by decide +kernel
theorem dX13_readsCommand_352 : decode cX13_readsCommand 352 = .ok (.ifCond .eq 7, 3) := by decide +kernel
theorem dX13_readsCommand_355 : decode cX13_readsCommand 355 = .ok (.iconst 1, 1) := by decide +kernel
theorem dX13_readsCommand_356 : decode cX13_readsCommand 356 = .ok (.goto 4, 3) := by decide +kernel
theorem dX13_readsCommand_359 : decode cX13_readsCommand 359 = .ok (.iconst 0, 1) := by decide +kernel
theorem dX13_readsCommand_360 : decode cX13_readsCommand 360 = .ok (.ireturn, 1) := by decide +kernel
theorem dX13_readsAll_0 : decode cX13_readsAll 0 = .ok (.aload_n 0, 1) := by decide +kernel
theorem dX13_readsAll_1 : decode cX13_readsAll 1 = .ok (.iconst 0, 1) := by decide +kernel
theorem dX13_readsAll_2 : decode cX13_readsAll 2 = .ok (.putfield 225, 3) := by decide +kernel
theorem dX13_readsAll_5 : decode cX13_readsAll 5 = .ok (.iconst 1, 1) := by decide +kernel
theorem dX13_readsAll_6 : decode cX13_readsAll 6 = .ok (.istore_n 1, 1) := by decide +kernel
theorem dX13_readsAll_7 : decode cX13_readsAll 7 = .ok (.iload_n 1, 1) := by decide +kernel
theorem dX13_readsAll_8 : decode cX13_readsAll 8 = .ok (.ifCond .eq 22, 3) := by decide +kernel
theorem dX13_readsAll_11 : decode cX13_readsAll 11 = .ok (.aload_n 0, 1) := by decide +kernel
theorem dX13_readsAll_12 : decode cX13_readsAll 12 = .ok (.invokevirtual 260, 3) := by decide +kernel
theorem dX13_readsAll_15 : decode cX13_readsAll 15 = .ok (.ifCond .ne 5, 3) := by decide +kernel
theorem dX13_readsAll_18 : decode cX13_readsAll 18 = .ok (.iconst 0, 1) := by decide +kernel
theorem dX13_readsAll_19 : decode cX13_readsAll 19 = .ok (.ireturn, 1) := by decide +kernel
theorem dX13_readsAll_20 : decode cX13_readsAll 20 = .ok (.aload_n 0, 1) := by decide +kernel
theorem dX13_readsAll_21 : decode cX13_readsAll 21 = .ok (.bipush 59, 2) := by decide +kernel
theorem dX13_readsAll_23 : decode cX13_readsAll 23 = .ok (.invokevirtual 239, 3) := by decide +kernel
theorem dX13_readsAll_26 : decode cX13_readsAll 26 = .ok (.istore_n 1, 1) := by decide +kernel
theorem dX13_readsAll_27 : decode cX13_readsAll 27 = .ok (.goto (-20), 3) := by decide +kernel
theorem dX13_readsAll_30 : decode cX13_readsAll 30 = .ok (.aload_n 0, 1) := by decide +kernel
theorem dX13_readsAll_31 : decode cX13_readsAll 31 = .ok (.getfield 225, 3) := by decide +kernel
theorem dX13_readsAll_34 : decode cX13_readsAll 34 = .ok (.aload_n 0, 1) := by decide +kernel
theorem dX13_readsAll_35 : decode cX13_readsAll 35 = .ok (.getfield 222, 3) := by decide +kernel
theorem dX13_readsAll_38 : decode cX13_readsAll 38 = .ok (.if_icmp .ne 7, 3) := by decide +kernel
theorem dX13_readsAll_41 : decode cX13_readsAll 41 = .ok (.iconst 1, 1) := by decide +kernel
theorem dX13_readsAll_42 : decode cX13_readsAll 42 = .ok (.goto 4, 3) := by decide +kernel
theorem dX13_readsAll_45 : decode cX13_readsAll 45 = .ok (.iconst 0, 1) := by decide +kernel
theorem dX13_readsAll_46 : decode cX13_readsAll 46 = .ok (.ireturn, 1) := by decide +kernel
theorem dX13_notNow_0 : decode cX13_notNow 0 = .ok (.aload_n 0, 1) := by decide +kernel
theorem dX13_notNow_1 : decode cX13_notNow 1 = .ok (.getfield 42, 3) := by decide +kernel
theorem dX13_notNow_4 : decode cX13_notNow 4 = .ok (.iconst 0, 1) := by decide +kernel
theorem dX13_notNow_5 : decode cX13_notNow 5 = .ok (.iaload, 1) := by decide +kernel
theorem dX13_notNow_6 : decode cX13_notNow 6 = .ok (.istore_n 1, 1) := by decide +kernel
theorem dX13_notNow_7 : decode cX13_notNow 7 = .ok (.aload_n 0, 1) := by decide +kernel
theorem dX13_notNow_8 : decode cX13_notNow 8 = .ok (.getfield 248, 3) := by decide +kernel
theorem dX13_notNow_11 : decode cX13_notNow 11 = .ok (.tableswitch 157 99 117 #[119, 136, 125, 130, 157, 157, 157, 157, 152, 157, 157, 157, 101, 157, 157, 141, 89, 157, 147], 89) := by decide +kernel
theorem dX13_notNow_100 : decode cX13_notNow 100 = .ok (.aload_n 0, 1) := by decide +kernel
theorem dX13_notNow_101 : decode cX13_notNow 101 = .ok (.iload_n 1, 1) := by decide +kernel
theorem dX13_notNow_102 : decode cX13_notNow 102 = .ok (.aload_n 0, 1) := by decide +kernel
theorem dX13_notNow_103 : decode cX13_notNow 103 = .ok (.getfield 42, 3) := by decide +kernel
theorem dX13_notNow_106 : decode cX13_notNow 106 = .ok (.iconst 1, 1) := by decide +kernel
theorem dX13_notNow_107 : decode cX13_notNow 107 = .ok (.iaload, 1) := by decide +kernel
theorem dX13_notNow_108 : decode cX13_notNow 108 = .ok (.invokevirtual 76, 3) := by decide +kernel
theorem dX13_notNow_111 : decode cX13_notNow 111 = .ok (.ireturn, 1) := by decide +kernel
theorem dX13_notNow_112 : decode cX13_notNow 112 = .ok (.aload_n 0, 1) := by decide +kernel
theorem dX13_notNow_113 : decode cX13_notNow 113 = .ok (.iload_n 1, 1) := by decide +kernel
theorem dX13_notNow_114 : decode cX13_notNow 114 = .ok (.aload_n 0, 1) := by decide +kernel
theorem dX13_notNow_115 : decode cX13_notNow 115 = .ok (.getfield 42, 3) := by decide +kernel
theorem dX13_notNow_118 : decode cX13_notNow 118 = .ok (.iconst 1, 1) := by decide +kernel
theorem dX13_notNow_119 : decode cX13_notNow 119 = .ok (.iaload, 1) := by decide +kernel
theorem dX13_notNow_120 : decode cX13_notNow 120 = .ok (.aload_n 0, 1) := by decide +kernel
theorem dX13_notNow_121 : decode cX13_notNow 121 = .ok (.getfield 42, 3) := by decide +kernel
theorem dX13_notNow_124 : decode cX13_notNow 124 = .ok (.iconst 2, 1) := by decide +kernel
theorem dX13_notNow_125 : decode cX13_notNow 125 = .ok (.iaload, 1) := by decide +kernel
theorem dX13_notNow_126 : decode cX13_notNow 126 = .ok (.invokevirtual 118, 3) := by decide +kernel
theorem dX13_notNow_129 : decode cX13_notNow 129 = .ok (.ireturn, 1) := by decide +kernel
theorem dX13_notNow_130 : decode cX13_notNow 130 = .ok (.aload_n 0, 1) := by decide +kernel
theorem dX13_notNow_131 : decode cX13_notNow 131 = .ok (.iload_n 1, 1) := by decide +kernel
theorem dX13_notNow_132 : decode cX13_notNow 132 = .ok (.invokevirtual 131, 3) := by decide +kernel
theorem dX13_notNow_135 : decode cX13_notNow 135 = .ok (.ireturn, 1) := by decide +kernel
theorem dX13_notNow_136 : decode cX13_notNow 136 = .ok (.iload_n 1, 1) := by decide +kernel
theorem dX13_notNow_137 : decode cX13_notNow 137 = .ok (.invokestatic 112, 3) := by decide +kernel
theorem dX13_notNow_140 : decode cX13_notNow 140 = .ok (.ireturn, 1) := by decide +kernel
theorem dX13_notNow_141 : decode cX13_notNow 141 = .ok (.aload_n 0, 1) := by decide +kernel
theorem dX13_notNow_142 : decode cX13_notNow 142 = .ok (.iload_n 1, 1) := by decide +kernel
theorem dX13_notNow_143 : decode cX13_notNow 143 = .ok (.invokevirtual 159, 3) := by decide +kernel
theorem dX13_notNow_146 : decode cX13_notNow 146 = .ok (.ireturn, 1) := by decide +kernel
theorem dX13_notNow_147 : decode cX13_notNow 147 = .ok (.iload_n 1, 1) := by decide +kernel
theorem dX13_notNow_148 : decode cX13_notNow 148 = .ok (.invokestatic 165, 3) := by decide +kernel
theorem dX13_notNow_151 : decode cX13_notNow 151 = .ok (.ireturn, 1) := by decide +kernel
theorem dX13_notNow_152 : decode cX13_notNow 152 = .ok (.aload_n 0, 1) := by decide +kernel
theorem dX13_notNow_153 : decode cX13_notNow 153 = .ok (.iload_n 1, 1) := by decide +kernel
theorem dX13_notNow_154 : decode cX13_notNow 154 = .ok (.invokevirtual 100, 3) := by decide +kernel
theorem dX13_notNow_157 : decode cX13_notNow 157 = .ok (.ireturn, 1) := by decide +kernel
theorem dX13_notNow_158 : decode cX13_notNow 158 = .ok (.iload_n 1, 1) := by decide +kernel
theorem dX13_notNow_159 : decode cX13_notNow 159 = .ok (.invokestatic 180, 3) := by decide +kernel
theorem dX13_notNow_162 : decode cX13_notNow 162 = .ok (.ireturn, 1) := by decide +kernel
theorem dX13_notNow_163 : decode cX13_notNow 163 = .ok (.iload_n 1, 1) := by decide +kernel
theorem dX13_notNow_164 : decode cX13_notNow 164 = .ok (.invokestatic 171, 3) := by decide +kernel
theorem dX13_notNow_167 : decode cX13_notNow 167 = .ok (.ireturn, 1) := by decide +kernel
theorem dX13_notNow_168 : decode cX13_notNow 168 = .ok (.iload_n 1, 1) := by decide +kernel
theorem dX13_notNow_169 : decode cX13_notNow 169 = .ok (.invokestatic 177, 3) := by decide +kernel
theorem dX13_notNow_172 : decode cX13_notNow 172 = .ok (.ireturn, 1) := by decide +kernel
theorem dX13_doesNow_0 : decode cX13_doesNow 0 = .ok (.aload_n 0, 1) := by decide +kernel
theorem dX13_doesNow_1 : decode cX13_doesNow 1 = .ok (.getfield 42, 3) := by decide +kernel
theorem dX13_doesNow_4 : decode cX13_doesNow 4 = .ok (.iconst 0, 1) := by decide +kernel
theorem dX13_doesNow_5 : decode cX13_doesNow 5 = .ok (.iaload, 1) := by decide +kernel
theorem dX13_doesNow_6 : decode cX13_doesNow 6 = .ok (.istore_n 1, 1) := by decide +kernel
theorem dX13_doesNow_7 : decode cX13_doesNow 7 = .ok (.aload_n 0, 1) := by decide +kernel
theorem dX13_doesNow_8 : decode cX13_doesNow 8 = .ok (.getfield 248, 3) := by decide +kernel
theorem dX13_doesNow_11 : decode cX13_doesNow 11 = .ok (.tableswitch 171 99 117 #[119, 144, 125, 134, 171, 171, 171, 171, 164, 171, 171, 171, 101, 171, 171, 150, 89, 171, 156], 89) := by decide +kernel
theorem dX13_doesNow_100 : decode cX13_doesNow 100 = .ok (.aload_n 0, 1) := by decide +kernel
theorem dX13_doesNow_101 : decode cX13_doesNow 101 = .ok (.iload_n 1, 1) := by decide +kernel
theorem dX13_doesNow_102 : decode cX13_doesNow 102 = .ok (.aload_n 0, 1) := by decide +kernel
theorem dX13_doesNow_103 : decode cX13_doesNow 103 = .ok (.getfield 42, 3) := by decide +kernel
theorem dX13_doesNow_106 : decode cX13_doesNow 106 = .ok (.iconst 1, 1) := by decide +kernel
theorem dX13_doesNow_107 : decode cX13_doesNow 107 = .ok (.iaload, 1) := by decide +kernel
theorem dX13_doesNow_108 : decode cX13_doesNow 108 = .ok (.invokevirtual 86, 3) := by decide +kernel
theorem dX13_doesNow_111 : decode cX13_doesNow 111 = .ok (.ireturn, 1) := by decide +kernel
theorem dX13_doesNow_112 : decode cX13_doesNow 112 = .ok (.aload_n 0, 1) := by decide +kernel
theorem dX13_doesNow_113 : decode cX13_doesNow 113 = .ok (.iload_n 1, 1) := by decide +kernel
theorem dX13_doesNow_114 : decode cX13_doesNow 114 = .ok (.aload_n 0, 1) := by decide +kernel
theorem dX13_doesNow_115 : decode cX13_doesNow 115 = .ok (.getfield 42, 3) := by decide +kernel
theorem dX13_doesNow_118 : decode cX13_doesNow 118 = .ok (.iconst 1, 1) := by decide +kernel
theorem dX13_doesNow_119 : decode cX13_doesNow 119 = .ok (.iaload, 1) := by decide +kernel
theorem dX13_doesNow_120 : decode cX13_doesNow 120 = .ok (.aload_n 0, 1) := by decide +kernel
theorem dX13_doesNow_121 : decode cX13_doesNow 121 = .ok (.getfield 42, 3) := by decide +kernel
theorem dX13_doesNow_124 : decode cX13_doesNow 124 = .ok (.iconst 2, 1) := by decide +kernel
theorem dX13_doesNow_125 : decode cX13_doesNow 125 = .ok (.iaload, 1) := by decide +kernel
theorem dX13_doesNow_126 : decode cX13_doesNow 126 = .ok (.invokevirtual 122, 3) := by decide +kernel
theorem dX13_doesNow_129 : decode cX13_doesNow 129 = .ok (.ireturn, 1) := by decide +kernel
theorem dX13_doesNow_130 : decode cX13_doesNow 130 = .ok (.aload_n 0, 1) := by decide +kernel
theorem dX13_doesNow_131 : decode cX13_doesNow 131 = .ok (.iload_n 1, 1) := by decide +kernel
theorem dX13_doesNow_132 : decode cX13_doesNow 132 = .ok (.invokevirtual 134, 3) := by decide +kernel
theorem dX13_doesNow_135 : decode cX13_doesNow 135 = .ok (.ireturn, 1) := by decide +kernel
theorem dX13_doesNow_136 : decode cX13_doesNow 136 = .ok (.aload_n 0, 1) := by decide +kernel
theorem dX13_doesNow_137 : decode cX13_doesNow 137 = .ok (.iload_n 1, 1) := by decide +kernel
theorem dX13_doesNow_138 : decode cX13_doesNow 138 = .ok (.bipush 97, 2) := by decide +kernel
theorem dX13_doesNow_140 : decode cX13_doesNow 140 = .ok (.isub, 1) := by decide +kernel
theorem dX13_doesNow_141 : decode cX13_doesNow 141 = .ok (.invokevirtual 115, 3) := by decide +kernel
theorem dX13_doesNow_144 : decode cX13_doesNow 144 = .ok (.ireturn, 1) := by decide +kernel
theorem dX13_doesNow_145 : decode cX13_doesNow 145 = .ok (.aload_n 0, 1) := by decide +kernel
theorem dX13_doesNow_146 : decode cX13_doesNow 146 = .ok (.aload_n 0, 1) := by decide +kernel
theorem dX13_doesNow_147 : decode cX13_doesNow 147 = .ok (.iload_n 1, 1) := by decide +kernel
theorem dX13_doesNow_148 : decode cX13_doesNow 148 = .ok (.invokevirtual 125, 3) := by decide +kernel
theorem dX13_doesNow_151 : decode cX13_doesNow 151 = .ok (.invokevirtual 162, 3) := by decide +kernel
theorem dX13_doesNow_154 : decode cX13_doesNow 154 = .ok (.ireturn, 1) := by decide +kernel
theorem dX13_doesNow_155 : decode cX13_doesNow 155 = .ok (.aload_n 0, 1) := by decide +kernel
theorem dX13_doesNow_156 : decode cX13_doesNow 156 = .ok (.iload_n 1, 1) := by decide +kernel
theorem dX13_doesNow_157 : decode cX13_doesNow 157 = .ok (.invokevirtual 168, 3) := by decide +kernel
theorem dX13_doesNow_160 : decode cX13_doesNow 160 = .ok (.ireturn, 1) := by decide +kernel
theorem dX13_doesNow_161 : decode cX13_doesNow 161 = .ok (.aload_n 0, 1) := by decide +kernel
theorem dX13_doesNow_162 : decode cX13_doesNow 162 = .ok (.iload_n 1, 1) := by decide +kernel
theorem dX13_doesNow_163 : decode cX13_doesNow 163 = .ok (.invokevirtual 103, 3) := by decide +kernel
theorem dX13_doesNow_166 : decode cX13_doesNow 166 = .ok (.ireturn, 1) := by decide +kernel
theorem dX13_doesNow_167 : decode cX13_doesNow 167 = .ok (.aload_n 0, 1) := by decide +kernel
theorem dX13_doesNow_168 : decode cX13_doesNow 168 = .ok (.bipush 7, 2) := by decide +kernel
theorem dX13_doesNow_170 : decode cX13_doesNow 170 = .ok (.iload_n 1, 1) := by decide +kernel
theorem dX13_doesNow_171 : decode cX13_doesNow 171 = .ok (.invokevirtual 174, 3) := by decide +kernel
theorem dX13_doesNow_174 : decode cX13_doesNow 174 = .ok (.ireturn, 1) := by decide +kernel
theorem dX13_doesNow_175 : decode cX13_doesNow 175 = .ok (.aload_n 0, 1) := by decide +kernel
theorem dX13_doesNow_176 : decode cX13_doesNow 176 = .ok (.iconst 5, 1) := by decide +kernel
theorem dX13_doesNow_177 : decode cX13_doesNow 177 = .ok (.iload_n 1, 1) := by decide +kernel
theorem dX13_doesNow_178 : decode cX13_doesNow 178 = .ok (.invokevirtual 174, 3) := by decide +kernel
theorem dX13_doesNow_181 : decode cX13_doesNow 181 = .ok (.ireturn, 1) := by decide +kernel
theorem dX13_doesNow_182 : decode cX13_doesNow 182 = .ok (.aload_n 0, 1) := by decide +kernel
theorem dX13_doesNow_183 : decode cX13_doesNow 183 = .ok (.bipush 6, 2) := by decide +kernel
theorem dX13_doesNow_185 : decode cX13_doesNow 185 = .ok (.iload_n 1, 1) := by decide +kernel
theorem dX13_doesNow_186 : decode cX13_doesNow 186 = .ok (.invokevirtual 174, 3) := by decide +kernel
theorem dX13_doesNow_189 : decode cX13_doesNow 189 = .ok (.ireturn, 1) := by decide +kernel
theorem dX13_doesAll_0 : decode cX13_doesAll 0 = .ok (.aload_n 0, 1) := by decide +kernel
theorem dX13_doesAll_1 : decode cX13_doesAll 1 = .ok (.iconst 0, 1) := by decide +kernel
theorem dX13_doesAll_2 : decode cX13_doesAll 2 = .ok (.putfield 263, 3) := by decide +kernel
theorem dX13_doesAll_5 : decode cX13_doesAll 5 = .ok (.aload_n 0, 1) := by decide +kernel
theorem dX13_doesAll_6 : decode cX13_doesAll 6 = .ok (.iconst 0, 1) := by decide +kernel
theorem dX13_doesAll_7 : decode cX13_doesAll 7 = .ok (.putfield 225, 3) := by decide +kernel
theorem dX13_doesAll_10 : decode cX13_doesAll 10 = .ok (.iconst 1, 1) := by decide +kernel
theorem dX13_doesAll_11 : decode cX13_doesAll 11 = .ok (.istore_n 1, 1) := by decide +kernel
theorem dX13_doesAll_12 : decode cX13_doesAll 12 = .ok (.iload_n 1, 1) := by decide +kernel
theorem dX13_doesAll_13 : decode cX13_doesAll 13 = .ok (.ifCond .eq 42, 3) := by decide +kernel
theorem dX13_doesAll_16 : decode cX13_doesAll 16 = .ok (.aload_n 0, 1) := by decide +kernel
theorem dX13_doesAll_17 : decode cX13_doesAll 17 = .ok (.invokevirtual 260, 3) := by decide +kernel
theorem dX13_doesAll_20 : decode cX13_doesAll 20 = .ok (.pop, 1) := by decide +kernel
theorem dX13_doesAll_21 : decode cX13_doesAll 21 = .ok (.aload_n 0, 1) := by decide +kernel
theorem dX13_doesAll_22 : decode cX13_doesAll 22 = .ok (.invokevirtual 266, 3) := by decide +kernel
theorem dX13_doesAll_25 : decode cX13_doesAll 25 = .ok (.ifCond .eq 5, 3) := by decide +kernel
theorem dX13_doesAll_28 : decode cX13_doesAll 28 = .ok (.iconst 0, 1) := by decide +kernel
theorem dX13_doesAll_29 : decode cX13_doesAll 29 = .ok (.ireturn, 1) := by decide +kernel
theorem dX13_doesAll_30 : decode cX13_doesAll 30 = .ok (.aload_n 0, 1) := by decide +kernel
theorem dX13_doesAll_31 : decode cX13_doesAll 31 = .ok (.invokevirtual 269, 3) := by decide +kernel
theorem dX13_doesAll_34 : decode cX13_doesAll 34 = .ok (.pop, 1) := by decide +kernel
theorem dX13_doesAll_35 : decode cX13_doesAll 35 = .ok (.aload_n 0, 1) := by decide +kernel
theorem dX13_doesAll_36 : decode cX13_doesAll 36 = .ok (.dup, 1) := by decide +kernel
theorem dX13_doesAll_37 : decode cX13_doesAll 37 = .ok (.getfield 263, 3) := by decide +kernel
theorem dX13_doesAll_40 : decode cX13_doesAll 40 = .ok (.iconst 1, 1) := by decide +kernel
theorem dX13_doesAll_41 : decode cX13_doesAll 41 = .ok (.iadd, 1) := by decide +kernel
theorem dX13_doesAll_42 : decode cX13_doesAll 42 = .ok (.putfield 263, 3) := by decide +kernel
theorem dX13_doesAll_45 : decode cX13_doesAll 45 = .ok (.aload_n 0, 1) := by decide +kernel
theorem dX13_doesAll_46 : decode cX13_doesAll 46 = .ok (.bipush 59, 2) := by decide +kernel
theorem dX13_doesAll_48 : decode cX13_doesAll 48 = .ok (.invokevirtual 239, 3) := by decide +kernel
theorem dX13_doesAll_51 : decode cX13_doesAll 51 = .ok (.istore_n 1, 1) := by decide +kernel
theorem dX13_doesAll_52 : decode cX13_doesAll 52 = .ok (.goto (-40), 3) := by decide +kernel
theorem dX13_doesAll_55 : decode cX13_doesAll 55 = .ok (.iconst 1, 1) := by decide +kernel
theorem dX13_doesAll_56 : decode cX13_doesAll 56 = .ok (.ireturn, 1) := by decide +kernel
theorem dX13_run_0 : decode cX13_run 0 = .ok (.aload_n 0, 1) := by decide +kernel
theorem dX13_run_1 : decode cX13_run 1 = .ok (.iconst 0, 1) := by decide +kernel
theorem dX13_run_2 : decode cX13_run 2 = .ok (.putfield 1, 3) := by decide +kernel
theorem dX13_run_5 : decode cX13_run 5 = .ok (.aload_n 0, 1) := by decide +kernel
theorem dX13_run_6 : decode cX13_run 6 = .ok (.invokevirtual 272, 3) := by decide +kernel
theorem dX13_run_9 : decode cX13_run 9 = .ok (.ifCond .ne 22, 3) := by decide +kernel
theorem dX13_run_12 : decode cX13_run 12 = .ok (.aload_n 0, 1) := by decide +kernel
theorem dX13_run_13 : decode cX13_run 13 = .ok (.aload_n 0, 1) := by decide +kernel
theorem dX13_run_14 : decode cX13_run 14 = .ok (.getfield 225, 3) := by decide +kernel
theorem dX13_run_17 : decode cX13_run 17 = .ok (.putfield 36, 3) := by decide +kernel
theorem dX13_run_20 : decode cX13_run 20 = .ok (.aload_n 0, 1) := by decide +kernel
theorem dX13_run_21 : decode cX13_run 21 = .ok (.iconst 0, 1) := by decide +kernel
theorem dX13_run_22 : decode cX13_run 22 = .ok (.putfield 222, 3) := by decide +kernel
theorem dX13_run_25 : decode cX13_run 25 = .ok (.aload_n 0, 1) := by decide +kernel
theorem dX13_run_26 : decode cX13_run 26 = .ok (.iconst 1, 1) := by decide +kernel
theorem dX13_run_27 : decode cX13_run 27 = .ok (.invokevirtual 79, 3) := by decide +kernel
theorem dX13_run_30 : decode cX13_run 30 = .ok (.ireturn, 1) := by decide +kernel
theorem dX13_run_31 : decode cX13_run 31 = .ok (.aload_n 0, 1) := by decide +kernel
theorem dX13_run_32 : decode cX13_run 32 = .ok (.invokevirtual 51, 3) := by decide +kernel
theorem dX13_run_35 : decode cX13_run 35 = .ok (.aload_n 0, 1) := by decide +kernel
theorem dX13_run_36 : decode cX13_run 36 = .ok (.invokevirtual 275, 3) := by decide +kernel
theorem dX13_run_39 : decode cX13_run 39 = .ok (.istore_n 1, 1) := by decide +kernel
theorem dX13_run_40 : decode cX13_run 40 = .ok (.aload_n 0, 1) := by decide +kernel
theorem dX13_run_41 : decode cX13_run 41 = .ok (.iconst 0, 1) := by decide +kernel
theorem dX13_run_42 : decode cX13_run 42 = .ok (.putfield 222, 3) := by decide +kernel
theorem dX13_run_45 : decode cX13_run 45 = .ok (.iload_n 1, 1) := by decide +kernel
theorem dX13_run_46 : decode cX13_run 46 = .ok (.ifCond .eq 12, 3) := by decide +kernel
theorem dX13_run_49 : decode cX13_run 49 = .ok (.aload_n 0, 1) := by decide +kernel
theorem dX13_run_50 : decode cX13_run 50 = .ok (.invokevirtual 54, 3) := by decide +kernel
theorem dX13_run_53 : decode cX13_run 53 = .ok (.aload_n 0, 1) := by decide +kernel
theorem dX13_run_54 : decode cX13_run 54 = .ok (.getfield 263, 3) := by decide +kernel
theorem dX13_run_57 : decode cX13_run 57 = .ok (.ireturn, 1) := by decide +kernel
theorem dX13_run_58 : decode cX13_run 58 = .ok (.aload_n 0, 1) := by decide +kernel
theorem dX13_run_59 : decode cX13_run 59 = .ok (.invokevirtual 278, 3) := by decide +kernel
theorem dX13_run_62 : decode cX13_run 62 = .ok (.aload_n 0, 1) := by decide +kernel
theorem dX13_run_63 : decode cX13_run 63 = .ok (.aload_n 0, 1) := by decide +kernel
theorem dX13_run_64 : decode cX13_run 64 = .ok (.getfield 263, 3) := by decide +kernel
theorem dX13_run_67 : decode cX13_run 67 = .ok (.putfield 39, 3) := by decide +kernel
theorem dX13_run_70 : decode cX13_run 70 = .ok (.aload_n 0, 1) := by decide +kernel
theorem dX13_run_71 : decode cX13_run 71 = .ok (.iconst 2, 1) := by decide +kernel
theorem dX13_run_72 : decode cX13_run 72 = .ok (.invokevirtual 79, 3) := by decide +kernel
theorem dX13_run_75 : decode cX13_run 75 = .ok (.ireturn, 1) := by decide +kernel
theorem dX13_errorPosition_0 : decode cX13_errorPosition 0 = .ok (.aload_n 0, 1) := by decide +kernel
theorem dX13_errorPosition_1 : decode cX13_errorPosition 1 = .ok (.iconst 0, 1) := by decide +kernel
theorem dX13_errorPosition_2 : decode cX13_errorPosition 2 = .ok (.putfield 1, 3) := by decide +kernel
theorem dX13_errorPosition_5 : decode cX13_errorPosition 5 = .ok (.aload_n 0, 1) := by decide +kernel
theorem dX13_errorPosition_6 : decode cX13_errorPosition 6 = .ok (.getfield 36, 3) := by decide +kernel
theorem dX13_errorPosition_9 : decode cX13_errorPosition 9 = .ok (.ifCond .ge 11, 3) := by decide +kernel
theorem dX13_errorPosition_12 : decode cX13_errorPosition 12 = .ok (.aload_n 0, 1) := by decide +kernel
theorem dX13_errorPosition_13 : decode cX13_errorPosition 13 = .ok (.iconst 1, 1) := by decide +kernel
theorem dX13_errorPosition_14 : decode cX13_errorPosition 14 = .ok (.invokevirtual 79, 3) := by decide +kernel
theorem dX13_errorPosition_17 : decode cX13_errorPosition 17 = .ok (.goto 7, 3) := by decide +kernel
theorem dX13_errorPosition_20 : decode cX13_errorPosition 20 = .ok (.aload_n 0, 1) := by decide +kernel
theorem dX13_errorPosition_21 : decode cX13_errorPosition 21 = .ok (.getfield 36, 3) := by decide +kernel
theorem dX13_errorPosition_24 : decode cX13_errorPosition 24 = .ok (.ireturn, 1) := by decide +kernel
theorem dX13_failedCommand_0 : decode cX13_failedCommand 0 = .ok (.aload_n 0, 1) := by decide +kernel
theorem dX13_failedCommand_1 : decode cX13_failedCommand 1 = .ok (.iconst 0, 1) := by decide +kernel
theorem dX13_failedCommand_2 : decode cX13_failedCommand 2 = .ok (.putfield 1, 3) := by decide +kernel
theorem dX13_failedCommand_5 : decode cX13_failedCommand 5 = .ok (.aload_n 0, 1) := by decide +kernel
theorem dX13_failedCommand_6 : decode cX13_failedCommand 6 = .ok (.getfield 39, 3) := by decide +kernel
theorem dX13_failedCommand_9 : decode cX13_failedCommand 9 = .ok (.ifCond .ge 11, 3) := by decide +kernel
theorem dX13_failedCommand_12 : decode cX13_failedCommand 12 = .ok (.aload_n 0, 1) := by decide +kernel
theorem dX13_failedCommand_13 : decode cX13_failedCommand 13 = .ok (.iconst 1, 1) := by decide +kernel
theorem dX13_failedCommand_14 : decode cX13_failedCommand 14 = .ok (.invokevirtual 79, 3) := by decide +kernel
theorem dX13_failedCommand_17 : decode cX13_failedCommand 17 = .ok (.goto 7, 3) := by decide +kernel
theorem dX13_failedCommand_20 : decode cX13_failedCommand 20 = .ok (.aload_n 0, 1) := by decide +kernel
theorem dX13_failedCommand_21 : decode cX13_failedCommand 21 = .ok (.getfield 39, 3) := by decide +kernel
theorem dX13_failedCommand_24 : decode cX13_failedCommand 24 = .ok (.ireturn, 1) := by decide +kernel
theorem dX13_undo_0 : decode cX13_undo 0 = .ok (.aload_n 0, 1) := by decide +kernel
theorem dX13_undo_1 : decode cX13_undo 1 = .ok (.iconst 0, 1) := by decide +kernel
theorem dX13_undo_2 : decode cX13_undo 2 = .ok (.putfield 1, 3) := by decide +kernel
theorem dX13_undo_5 : decode cX13_undo 5 = .ok (.aload_n 0, 1) := by decide +kernel
theorem dX13_undo_6 : decode cX13_undo 6 = .ok (.getfield 45, 3) := by decide +kernel
theorem dX13_undo_9 : decode cX13_undo 9 = .ok (.ifCond .ne 9, 3) := by decide +kernel
theorem dX13_undo_12 : decode cX13_undo 12 = .ok (.aload_n 0, 1) := by decide +kernel
theorem dX13_undo_13 : decode cX13_undo 13 = .ok (.iconst 1, 1) := by decide +kernel
theorem dX13_undo_14 : decode cX13_undo 14 = .ok (.invokevirtual 79, 3) := by decide +kernel
theorem dX13_undo_17 : decode cX13_undo 17 = .ok (.ireturn, 1) := by decide +kernel
theorem dX13_undo_18 : decode cX13_undo 18 = .ok (.aload_n 0, 1) := by decide +kernel
theorem dX13_undo_19 : decode cX13_undo 19 = .ok (.dup, 1) := by decide +kernel
theorem dX13_undo_20 : decode cX13_undo 20 = .ok (.getfield 45, 3) := by decide +kernel
theorem dX13_undo_23 : decode cX13_undo 23 = .ok (.iconst 1, 1) := by decide +kernel
theorem dX13_undo_24 : decode cX13_undo 24 = .ok (.isub, 1) := by decide +kernel
theorem dX13_undo_25 : decode cX13_undo 25 = .ok (.putfield 45, 3) := by decide +kernel
theorem dX13_undo_28 : decode cX13_undo 28 = .ok (.aload_n 0, 1) := by decide +kernel
theorem dX13_undo_29 : decode cX13_undo 29 = .ok (.getfield 48, 3) := by decide +kernel
theorem dX13_undo_32 : decode cX13_undo 32 = .ok (.aload_n 0, 1) := by decide +kernel
theorem dX13_undo_33 : decode cX13_undo 33 = .ok (.getfield 45, 3) := by decide +kernel
theorem dX13_undo_36 : decode cX13_undo 36 = .ok (.iadd, 1) := by decide +kernel
theorem dX13_undo_37 : decode cX13_undo 37 = .ok (.bipush 8, 2) := by decide +kernel
theorem dX13_undo_39 : decode cX13_undo 39 = .ok (.irem, 1) := by decide +kernel
theorem dX13_undo_40 : decode cX13_undo 40 = .ok (.istore_n 1, 1) := by decide +kernel
theorem dX13_undo_41 : decode cX13_undo 41 = .ok (.iconst 0, 1) := by decide +kernel
theorem dX13_undo_42 : decode cX13_undo 42 = .ok (.istore_n 2, 1) := by decide +kernel
theorem dX13_undo_43 : decode cX13_undo 43 = .ok (.iload_n 2, 1) := by decide +kernel
theorem dX13_undo_44 : decode cX13_undo 44 = .ok (.sipush 201, 3) := by decide +kernel
theorem dX13_undo_47 : decode cX13_undo 47 = .ok (.if_icmp .ge 27, 3) := by decide +kernel
theorem dX13_undo_50 : decode cX13_undo 50 = .ok (.aload_n 0, 1) := by decide +kernel
theorem dX13_undo_51 : decode cX13_undo 51 = .ok (.getfield 13, 3) := by decide +kernel
theorem dX13_undo_54 : decode cX13_undo 54 = .ok (.iload_n 2, 1) := by decide +kernel
theorem dX13_undo_55 : decode cX13_undo 55 = .ok (.aload_n 0, 1) := by decide +kernel
theorem dX13_undo_56 : decode cX13_undo 56 = .ok (.getfield 17, 3) := by decide +kernel
theorem dX13_undo_59 : decode cX13_undo 59 = .ok (.sipush 201, 3) := by decide +kernel
theorem dX13_undo_62 : decode cX13_undo 62 = .ok (.iload_n 1, 1) := by decide +kernel
theorem dX13_undo_63 : decode cX13_undo 63 = .ok (.imul, 1) := by decide +kernel
theorem dX13_undo_64 : decode cX13_undo 64 = .ok (.iload_n 2, 1) := by decide +kernel
theorem dX13_undo_65 : decode cX13_undo 65 = .ok (.iadd, 1) := by decide +kernel
theorem dX13_undo_66 : decode cX13_undo 66 = .ok (.iaload, 1) := by decide +kernel
theorem dX13_undo_67 : decode cX13_undo 67 = .ok (.iastore, 1) := by decide +kernel
theorem dX13_undo_68 : decode cX13_undo 68 = .ok (.iinc 2 1, 3) := by decide +kernel
theorem dX13_undo_71 : decode cX13_undo 71 = .ok (.goto (-28), 3) := by decide +kernel
theorem dX13_undo_74 : decode cX13_undo 74 = .ok (.aload_n 0, 1) := by decide +kernel
theorem dX13_undo_75 : decode cX13_undo 75 = .ok (.getfield 45, 3) := by decide +kernel
theorem dX13_undo_78 : decode cX13_undo 78 = .ok (.ireturn, 1) := by decide +kernel
theorem dX13_save_0 : decode cX13_save 0 = .ok (.aload_n 0, 1) := by decide +kernel
theorem dX13_save_1 : decode cX13_save 1 = .ok (.iconst 0, 1) := by decide +kernel
theorem dX13_save_2 : decode cX13_save 2 = .ok (.putfield 1, 3) := by decide +kernel
theorem dX13_save_5 : decode cX13_save 5 = .ok (.iconst 0, 1) := by decide +kernel
theorem dX13_save_6 : decode cX13_save 6 = .ok (.istore_n 1, 1) := by decide +kernel
theorem dX13_save_7 : decode cX13_save 7 = .ok (.iload_n 1, 1) := by decide +kernel
theorem dX13_save_8 : decode cX13_save 8 = .ok (.sipush 201, 3) := by decide +kernel
theorem dX13_save_11 : decode cX13_save 11 = .ok (.if_icmp .ge 21, 3) := by decide +kernel
theorem dX13_save_14 : decode cX13_save 14 = .ok (.aload_n 0, 1) := by decide +kernel
theorem dX13_save_15 : decode cX13_save 15 = .ok (.getfield 20, 3) := by decide +kernel
theorem dX13_save_18 : decode cX13_save 18 = .ok (.iload_n 1, 1) := by decide +kernel
theorem dX13_save_19 : decode cX13_save 19 = .ok (.aload_n 0, 1) := by decide +kernel
theorem dX13_save_20 : decode cX13_save 20 = .ok (.getfield 13, 3) := by decide +kernel
theorem dX13_save_23 : decode cX13_save 23 = .ok (.iload_n 1, 1) := by decide +kernel
theorem dX13_save_24 : decode cX13_save 24 = .ok (.iaload, 1) := by decide +kernel
theorem dX13_save_25 : decode cX13_save 25 = .ok (.iastore, 1) := by decide +kernel
theorem dX13_save_26 : decode cX13_save 26 = .ok (.iinc 1 1, 3) := by decide +kernel
theorem dX13_save_29 : decode cX13_save 29 = .ok (.goto (-22), 3) := by decide +kernel
theorem dX13_save_32 : decode cX13_save 32 = .ok (.aload_n 0, 1) := by decide +kernel
theorem dX13_save_33 : decode cX13_save 33 = .ok (.iconst 1, 1) := by decide +kernel
theorem dX13_save_34 : decode cX13_save 34 = .ok (.putfield 281, 3) := by decide +kernel
theorem dX13_save_37 : decode cX13_save 37 = .ok (.aload_n 0, 1) := by decide +kernel
theorem dX13_save_38 : decode cX13_save 38 = .ok (.getfield 13, 3) := by decide +kernel
theorem dX13_save_41 : decode cX13_save 41 = .ok (.iconst 0, 1) := by decide +kernel
theorem dX13_save_42 : decode cX13_save 42 = .ok (.iaload, 1) := by decide +kernel
theorem dX13_save_43 : decode cX13_save 43 = .ok (.ireturn, 1) := by decide +kernel
theorem dX13_restore_0 : decode cX13_restore 0 = .ok (.aload_n 0, 1) := by decide +kernel
theorem dX13_restore_1 : decode cX13_restore 1 = .ok (.iconst 0, 1) := by decide +kernel
theorem dX13_restore_2 : decode cX13_restore 2 = .ok (.putfield 1, 3) := by decide +kernel
theorem dX13_restore_5 : decode cX13_restore 5 = .ok (.aload_n 0, 1) := by decide +kernel
theorem dX13_restore_6 : decode cX13_restore 6 = .ok (.getfield 281, 3) := by decide +kernel
theorem dX13_restore_9 : decode cX13_restore 9 = .ok (.ifCond .ne 9, 3) := by decide +kernel
theorem dX13_restore_12 : decode cX13_restore 12 = .ok (.aload_n 0, 1) := by decide +kernel
theorem dX13_restore_13 : decode cX13_restore 13 = .ok (.iconst 1, 1) := by decide +kernel
theorem dX13_restore_14 : decode cX13_restore 14 = .ok (.invokevirtual 79, 3) := by decide +kernel
theorem dX13_restore_17 : decode cX13_restore 17 = .ok (.ireturn, 1) := by decide +kernel
theorem dX13_restore_18 : decode cX13_restore 18 = .ok (.iconst 0, 1) := by decide +kernel
theorem dX13_restore_19 : decode cX13_restore 19 = .ok (.istore_n 1, 1) := by decide +kernel
theorem dX13_restore_20 : decode cX13_restore 20 = .ok (.iload_n 1, 1) := by decide +kernel
theorem dX13_restore_21 : decode cX13_restore 21 = .ok (.sipush 201, 3) := by decide +kernel
theorem dX13_restore_24 : decode cX13_restore 24 = .ok (.if_icmp .ge 21, 3) := by decide +kernel
theorem dX13_restore_27 : decode cX13_restore 27 = .ok (.aload_n 0, 1) := by decide +kernel
theorem dX13_restore_28 : decode cX13_restore 28 = .ok (.getfield 13, 3) := by decide +kernel
theorem dX13_restore_31 : decode cX13_restore 31 = .ok (.iload_n 1, 1) := by decide +kernel
theorem dX13_restore_32 : decode cX13_restore 32 = .ok (.aload_n 0, 1) := by decide +kernel
theorem dX13_restore_33 : decode cX13_restore 33 = .ok (.getfield 20, 3) := by decide +kernel
theorem dX13_restore_36 : decode cX13_restore 36 = .ok (.iload_n 1, 1) := by decide +kernel
theorem dX13_restore_37 : decode cX13_restore 37 = .ok (.iaload, 1) := by decide +kernel
theorem dX13_restore_38 : decode cX13_restore 38 = .ok (.iastore, 1) := by decide +kernel
theorem dX13_restore_39 : decode cX13_restore 39 = .ok (.iinc 1 1, 3) := by decide +kernel
theorem dX13_restore_42 : decode cX13_restore 42 = .ok (.goto (-22), 3) := by decide +kernel
theorem dX13_restore_45 : decode cX13_restore 45 = .ok (.aload_n 0, 1) := by decide +kernel
theorem dX13_restore_46 : decode cX13_restore 46 = .ok (.iconst 0, 1) := by decide +kernel
theorem dX13_restore_47 : decode cX13_restore 47 = .ok (.putfield 45, 3) := by decide +kernel
theorem dX13_restore_50 : decode cX13_restore 50 = .ok (.aload_n 0, 1) := by decide +kernel
theorem dX13_restore_51 : decode cX13_restore 51 = .ok (.iconst 0, 1) := by decide +kernel
theorem dX13_restore_52 : decode cX13_restore 52 = .ok (.putfield 48, 3) := by decide +kernel
theorem dX13_restore_55 : decode cX13_restore 55 = .ok (.aload_n 0, 1) := by decide +kernel
theorem dX13_restore_56 : decode cX13_restore 56 = .ok (.getfield 13, 3) := by decide +kernel
theorem dX13_restore_59 : decode cX13_restore 59 = .ok (.iconst 0, 1) := by decide +kernel
theorem dX13_restore_60 : decode cX13_restore 60 = .ok (.iaload, 1) := by decide +kernel
theorem dX13_restore_61 : decode cX13_restore 61 = .ok (.ireturn, 1) := by decide +kernel
