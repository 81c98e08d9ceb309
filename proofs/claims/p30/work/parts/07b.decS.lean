theorem dL_drawn_0 : decode cL_drawn 0 = .ok (.iload_n 1, 1) := by decide +kernel
theorem dL_drawn_1 : decode cL_drawn 1 = .ok (.aload_n 0, 1) := by decide +kernel
theorem dL_drawn_2 : decode cL_drawn 2 = .ok (.arraylength, 1) := by decide +kernel
theorem dL_drawn_3 : decode cL_drawn 3 = .ok (.if_icmp .ge 9, 3) := by decide +kernel
theorem dL_drawn_6 : decode cL_drawn 6 = .ok (.aload_n 0, 1) := by decide +kernel
theorem dL_drawn_7 : decode cL_drawn 7 = .ok (.iload_n 1, 1) := by decide +kernel
theorem dL_drawn_8 : decode cL_drawn 8 = .ok (.iaload, 1) := by decide +kernel
theorem dL_drawn_9 : decode cL_drawn 9 = .ok (.goto 12, 3) := by decide +kernel
theorem dL_drawn_12 : decode cL_drawn 12 = .ok (.sipush 12253, 3) := by decide +kernel
theorem dL_drawn_15 : decode cL_drawn 15 = .ok (.iload_n 1, 1) := by decide +kernel
theorem dL_drawn_16 : decode cL_drawn 16 = .ok (.imul, 1) := by decide +kernel
theorem dL_drawn_17 : decode cL_drawn 17 = .ok (.sipush 8017, 3) := by decide +kernel
theorem dL_drawn_20 : decode cL_drawn 20 = .ok (.iadd, 1) := by decide +kernel
theorem dL_drawn_21 : decode cL_drawn 21 = .ok (.istore_n 2, 1) := by decide +kernel
theorem dL_drawn_22 : decode cL_drawn 22 = .ok (.iload_n 2, 1) := by decide +kernel
theorem dL_drawn_23 : decode cL_drawn 23 = .ok (.ldc 7, 2) := by decide +kernel
theorem dL_drawn_25 : decode cL_drawn 25 = .ok (.iand, 1) := by decide +kernel
theorem dL_drawn_26 : decode cL_drawn 26 = .ok (.ireturn, 1) := by decide +kernel
theorem dL_does_0 : decode cL_does 0 = .ok (.iload_n 1, 1) := by decide +kernel
theorem dL_does_1 : decode cL_does 1 = .ok (.ifCond .ne 11, 3) := by decide +kernel
theorem dL_does_4 : decode cL_does 4 = .ok (.aload_n 0, 1) := by decide +kernel
theorem dL_does_5 : decode cL_does 5 = .ok (.iload_n 2, 1) := by decide +kernel
theorem dL_does_6 : decode cL_does 6 = .ok (.invokevirtual 8, 3) := by decide +kernel
theorem dL_does_9 : decode cL_does 9 = .ok (.goto 59, 3) := by decide +kernel
theorem dL_does_12 : decode cL_does 12 = .ok (.iload_n 1, 1) := by decide +kernel
theorem dL_does_13 : decode cL_does 13 = .ok (.iconst 1, 1) := by decide +kernel
theorem dL_does_14 : decode cL_does 14 = .ok (.if_icmp .ne 11, 3) := by decide +kernel
theorem dL_does_17 : decode cL_does 17 = .ok (.aload_n 0, 1) := by decide +kernel
theorem dL_does_18 : decode cL_does 18 = .ok (.iload_n 2, 1) := by decide +kernel
theorem dL_does_19 : decode cL_does 19 = .ok (.invokevirtual 14, 3) := by decide +kernel
theorem dL_does_22 : decode cL_does 22 = .ok (.goto 46, 3) := by decide +kernel
theorem dL_does_25 : decode cL_does 25 = .ok (.iload_n 1, 1) := by decide +kernel
theorem dL_does_26 : decode cL_does 26 = .ok (.iconst 2, 1) := by decide +kernel
theorem dL_does_27 : decode cL_does 27 = .ok (.if_icmp .ne 11, 3) := by decide +kernel
theorem dL_does_30 : decode cL_does 30 = .ok (.aload_n 0, 1) := by decide +kernel
theorem dL_does_31 : decode cL_does 31 = .ok (.iload_n 2, 1) := by decide +kernel
theorem dL_does_32 : decode cL_does 32 = .ok (.invokevirtual 17, 3) := by decide +kernel
theorem dL_does_35 : decode cL_does 35 = .ok (.goto 33, 3) := by decide +kernel
theorem dL_does_38 : decode cL_does 38 = .ok (.iload_n 1, 1) := by decide +kernel
theorem dL_does_39 : decode cL_does 39 = .ok (.iconst 3, 1) := by decide +kernel
theorem dL_does_40 : decode cL_does 40 = .ok (.if_icmp .ne 11, 3) := by decide +kernel
theorem dL_does_43 : decode cL_does 43 = .ok (.aload_n 0, 1) := by decide +kernel
theorem dL_does_44 : decode cL_does 44 = .ok (.iload_n 2, 1) := by decide +kernel
theorem dL_does_45 : decode cL_does 45 = .ok (.invokevirtual 20, 3) := by decide +kernel
theorem dL_does_48 : decode cL_does 48 = .ok (.goto 20, 3) := by decide +kernel
theorem dL_does_51 : decode cL_does 51 = .ok (.iload_n 1, 1) := by decide +kernel
theorem dL_does_52 : decode cL_does 52 = .ok (.iconst 4, 1) := by decide +kernel
theorem dL_does_53 : decode cL_does 53 = .ok (.if_icmp .ne 11, 3) := by decide +kernel
theorem dL_does_56 : decode cL_does 56 = .ok (.aload_n 0, 1) := by decide +kernel
theorem dL_does_57 : decode cL_does 57 = .ok (.iload_n 2, 1) := by decide +kernel
theorem dL_does_58 : decode cL_does 58 = .ok (.invokevirtual 23, 3) := by decide +kernel
theorem dL_does_61 : decode cL_does 61 = .ok (.goto 7, 3) := by decide +kernel
theorem dL_does_64 : decode cL_does 64 = .ok (.aload_n 0, 1) := by decide +kernel
theorem dL_does_65 : decode cL_does 65 = .ok (.invokevirtual 26, 3) := by decide +kernel
theorem dL_does_68 : decode cL_does 68 = .ok (.ireturn, 1) := by decide +kernel
theorem dL_does_69 : decode cL_does 69 = .ok (.astore_n 3, 1) := by decide +kernel
theorem dL_does_70 : decode cL_does 70 = .ok (.bipush (-8), 2) := by decide +kernel
theorem dL_does_72 : decode cL_does 72 = .ok (.ireturn, 1) := by decide +kernel
theorem dL_does_73 : decode cL_does 73 = .ok (.astore_n 3, 1) := by decide +kernel
theorem dL_does_74 : decode cL_does 74 = .ok (.bipush (-8), 2) := by decide +kernel
theorem dL_does_76 : decode cL_does 76 = .ok (.ireturn, 1) := by decide +kernel
theorem dL_does_77 : decode cL_does 77 = .ok (.astore_n 3, 1) := by decide +kernel
theorem dL_does_78 : decode cL_does 78 = .ok (.bipush (-8), 2) := by decide +kernel
theorem dL_does_80 : decode cL_does 80 = .ok (.ireturn, 1) := by decide +kernel
theorem dL_crashes_0 : decode cL_crashes 0 = .ok (.aload_n 0, 1) := by decide +kernel
theorem dL_crashes_1 : decode cL_crashes 1 = .ok (.iload_n 1, 1) := by decide +kernel
theorem dL_crashes_2 : decode cL_crashes 2 = .ok (.invokevirtual 36, 3) := by decide +kernel
theorem dL_crashes_5 : decode cL_crashes 5 = .ok (.goto 9, 3) := by decide +kernel
theorem dL_crashes_8 : decode cL_crashes 8 = .ok (.astore_n 2, 1) := by decide +kernel
theorem dL_crashes_9 : decode cL_crashes 9 = .ok (.iconst 0, 1) := by decide +kernel
theorem dL_crashes_10 : decode cL_crashes 10 = .ok (.ireturn, 1) := by decide +kernel
theorem dL_crashes_11 : decode cL_crashes 11 = .ok (.astore_n 2, 1) := by decide +kernel
theorem dL_crashes_12 : decode cL_crashes 12 = .ok (.iconst 0, 1) := by decide +kernel
theorem dL_crashes_13 : decode cL_crashes 13 = .ok (.ireturn, 1) := by decide +kernel
theorem dL_crashes_14 : decode cL_crashes 14 = .ok (.iconst 1, 1) := by decide +kernel
theorem dL_crashes_15 : decode cL_crashes 15 = .ok (.ireturn, 1) := by decide +kernel
theorem dL_crash_0 : decode cL_crash 0 = .ok (.aload_n 0, 1) := by decide +kernel
theorem dL_crash_1 : decode cL_crash 1 = .ok (.invokevirtual 40, 3) := by decide +kernel
theorem dL_crash_4 : decode cL_crash 4 = .ok (.goto 6, 3) := by decide +kernel
theorem dL_crash_7 : decode cL_crash 7 = .ok (.astore_n 1, 1) := by decide +kernel
theorem dL_crash_8 : decode cL_crash 8 = .ok (.iconst 0, 1) := by decide +kernel
theorem dL_crash_9 : decode cL_crash 9 = .ok (.ireturn, 1) := by decide +kernel
theorem dL_crash_10 : decode cL_crash 10 = .ok (.iconst 1, 1) := by decide +kernel
theorem dL_crash_11 : decode cL_crash 11 = .ok (.ireturn, 1) := by decide +kernel
theorem dL_write_0 : decode cL_write 0 = .ok (.iload_n 3, 1) := by decide +kernel
theorem dL_write_1 : decode cL_write 1 = .ok (.iconst (-1), 1) := by decide +kernel
theorem dL_write_2 : decode cL_write 2 = .ok (.if_icmp .ne 12, 3) := by decide +kernel
theorem dL_write_5 : decode cL_write 5 = .ok (.aload_n 0, 1) := by decide +kernel
theorem dL_write_6 : decode cL_write 6 = .ok (.iload_n 1, 1) := by decide +kernel
theorem dL_write_7 : decode cL_write 7 = .ok (.iload_n 2, 1) := by decide +kernel
theorem dL_write_8 : decode cL_write 8 = .ok (.invokevirtual 43, 3) := by decide +kernel
theorem dL_write_11 : decode cL_write 11 = .ok (.goto 10, 3) := by decide +kernel
theorem dL_write_14 : decode cL_write 14 = .ok (.aload_n 0, 1) := by decide +kernel
theorem dL_write_15 : decode cL_write 15 = .ok (.iload_n 1, 1) := by decide +kernel
theorem dL_write_16 : decode cL_write 16 = .ok (.iload_n 2, 1) := by decide +kernel
theorem dL_write_17 : decode cL_write 17 = .ok (.iload_n 3, 1) := by decide +kernel
theorem dL_write_18 : decode cL_write 18 = .ok (.invokevirtual 47, 3) := by decide +kernel
theorem dL_write_21 : decode cL_write 21 = .ok (.ireturn, 1) := by decide +kernel
theorem dL_write_22 : decode cL_write 22 = .ok (.astore 4, 2) := by decide +kernel
theorem dL_write_24 : decode cL_write 24 = .ok (.bipush (-8), 2) := by decide +kernel
theorem dL_write_26 : decode cL_write 26 = .ok (.ireturn, 1) := by decide +kernel
theorem dL_write_27 : decode cL_write 27 = .ok (.astore 4, 2) := by decide +kernel
theorem dL_write_29 : decode cL_write 29 = .ok (.bipush (-8), 2) := by decide +kernel
theorem dL_write_31 : decode cL_write 31 = .ok (.ireturn, 1) := by decide +kernel
theorem dL_write_32 : decode cL_write 32 = .ok (.astore 4, 2) := by decide +kernel
theorem dL_write_34 : decode cL_write 34 = .ok (.bipush (-8), 2) := by decide +kernel
theorem dL_write_36 : decode cL_write 36 = .ok (.ireturn, 1) := by decide +kernel
theorem dL_of_0 : decode cL_of 0 = .ok (.iload_n 1, 1) := by decide +kernel
theorem dL_of_1 : decode cL_of 1 = .ok (.ifCond .ne 11, 3) := by decide +kernel
theorem dL_of_4 : decode cL_of 4 = .ok (.aload_n 0, 1) := by decide +kernel
theorem dL_of_5 : decode cL_of 5 = .ok (.iload_n 2, 1) := by decide +kernel
theorem dL_of_6 : decode cL_of 6 = .ok (.invokevirtual 51, 3) := by decide +kernel
theorem dL_of_9 : decode cL_of 9 = .ok (.goto 98, 3) := by decide +kernel
theorem dL_of_12 : decode cL_of 12 = .ok (.iload_n 1, 1) := by decide +kernel
theorem dL_of_13 : decode cL_of 13 = .ok (.iconst 1, 1) := by decide +kernel
theorem dL_of_14 : decode cL_of 14 = .ok (.if_icmp .ne 11, 3) := by decide +kernel
theorem dL_of_17 : decode cL_of 17 = .ok (.aload_n 0, 1) := by decide +kernel
theorem dL_of_18 : decode cL_of 18 = .ok (.iload_n 2, 1) := by decide +kernel
theorem dL_of_19 : decode cL_of 19 = .ok (.invokevirtual 54, 3) := by decide +kernel
theorem dL_of_22 : decode cL_of 22 = .ok (.goto 85, 3) := by decide +kernel
theorem dL_of_25 : decode cL_of 25 = .ok (.iload_n 1, 1) := by decide +kernel
theorem dL_of_26 : decode cL_of 26 = .ok (.iconst 2, 1) := by decide +kernel
theorem dL_of_27 : decode cL_of 27 = .ok (.if_icmp .ne 12, 3) := by decide +kernel
theorem dL_of_30 : decode cL_of 30 = .ok (.aload_n 0, 1) := by decide +kernel
theorem dL_of_31 : decode cL_of 31 = .ok (.iload_n 2, 1) := by decide +kernel
theorem dL_of_32 : decode cL_of 32 = .ok (.iload_n 3, 1) := by decide +kernel
theorem dL_of_33 : decode cL_of 33 = .ok (.invokevirtual 57, 3) := by decide +kernel
theorem dL_of_36 : decode cL_of 36 = .ok (.goto 71, 3) := by decide +kernel
theorem dL_of_39 : decode cL_of 39 = .ok (.iload_n 1, 1) := by decide +kernel
theorem dL_of_40 : decode cL_of 40 = .ok (.iconst 3, 1) := by decide +kernel
theorem dL_of_41 : decode cL_of 41 = .ok (.if_icmp .ne 12, 3) := by decide +kernel
theorem dL_of_44 : decode cL_of 44 = .ok (.aload_n 0, 1) := by decide +kernel
theorem dL_of_45 : decode cL_of 45 = .ok (.iload_n 2, 1) := by decide +kernel
theorem dL_of_46 : decode cL_of 46 = .ok (.iload_n 3, 1) := by decide +kernel
theorem dL_of_47 : decode cL_of 47 = .ok (.invokevirtual 60, 3) := by decide +kernel
theorem dL_of_50 : decode cL_of 50 = .ok (.goto 57, 3) := by decide +kernel
theorem dL_of_53 : decode cL_of 53 = .ok (.iload_n 1, 1) := by decide +kernel
theorem dL_of_54 : decode cL_of 54 = .ok (.iconst 4, 1) := by decide +kernel
theorem dL_of_55 : decode cL_of 55 = .ok (.if_icmp .ne 12, 3) := by decide +kernel
theorem dL_of_58 : decode cL_of 58 = .ok (.aload_n 0, 1) := by decide +kernel
theorem dL_of_59 : decode cL_of 59 = .ok (.iload_n 2, 1) := by decide +kernel
theorem dL_of_60 : decode cL_of 60 = .ok (.iload_n 3, 1) := by decide +kernel
theorem dL_of_61 : decode cL_of 61 = .ok (.invokevirtual 63, 3) := by decide +kernel
theorem dL_of_64 : decode cL_of 64 = .ok (.goto 43, 3) := by decide +kernel
theorem dL_of_67 : decode cL_of 67 = .ok (.iload_n 1, 1) := by decide +kernel
theorem dL_of_68 : decode cL_of 68 = .ok (.iconst 5, 1) := by decide +kernel
theorem dL_of_69 : decode cL_of 69 = .ok (.if_icmp .ne 11, 3) := by decide +kernel
theorem dL_of_72 : decode cL_of 72 = .ok (.aload_n 0, 1) := by decide +kernel
theorem dL_of_73 : decode cL_of 73 = .ok (.iload_n 2, 1) := by decide +kernel
theorem dL_of_74 : decode cL_of 74 = .ok (.invokevirtual 66, 3) := by decide +kernel
theorem dL_of_77 : decode cL_of 77 = .ok (.goto 30, 3) := by decide +kernel
theorem dL_of_80 : decode cL_of 80 = .ok (.iload_n 1, 1) := by decide +kernel
theorem dL_of_81 : decode cL_of 81 = .ok (.bipush 6, 2) := by decide +kernel
theorem dL_of_83 : decode cL_of 83 = .ok (.if_icmp .ne 11, 3) := by decide +kernel
theorem dL_of_86 : decode cL_of 86 = .ok (.aload_n 0, 1) := by decide +kernel
theorem dL_of_87 : decode cL_of 87 = .ok (.iload_n 2, 1) := by decide +kernel
theorem dL_of_88 : decode cL_of 88 = .ok (.invokevirtual 69, 3) := by decide +kernel
theorem dL_of_91 : decode cL_of 91 = .ok (.goto 16, 3) := by decide +kernel
theorem dL_of_94 : decode cL_of 94 = .ok (.aload_n 0, 1) := by decide +kernel
theorem dL_of_95 : decode cL_of 95 = .ok (.iload_n 2, 1) := by decide +kernel
theorem dL_of_96 : decode cL_of 96 = .ok (.invokevirtual 72, 3) := by decide +kernel
theorem dL_of_99 : decode cL_of 99 = .ok (.ifCond .eq 7, 3) := by decide +kernel
theorem dL_of_102 : decode cL_of 102 = .ok (.iconst 1, 1) := by decide +kernel
theorem dL_of_103 : decode cL_of 103 = .ok (.goto 4, 3) := by decide +kernel
theorem dL_of_106 : decode cL_of 106 = .ok (.iconst 0, 1) := by decide +kernel
theorem dL_of_107 : decode cL_of 107 = .ok (.ireturn, 1) := by decide +kernel
theorem dL_of_108 : decode cL_of 108 = .ok (.astore 4, 2) := by decide +kernel
theorem dL_of_110 : decode cL_of 110 = .ok (.bipush (-8), 2) := by decide +kernel
theorem dL_of_112 : decode cL_of 112 = .ok (.ireturn, 1) := by decide +kernel
theorem dL_of_113 : decode cL_of 113 = .ok (.astore 4, 2) := by decide +kernel
theorem dL_of_115 : decode cL_of 115 = .ok (.bipush (-8), 2) := by decide +kernel
theorem dL_of_117 : decode cL_of 117 = .ok (.ireturn, 1) := by decide +kernel
