theorem d_PatternBookModel_takeAtMost_2 : decode b_PatternBookModel_takeAtMost 2 = .ok (.iload_n 2, 1) := by decide +kernel
theorem d_PatternBookModel_takeAtMost_3 : decode b_PatternBookModel_takeAtMost 3 = .ok (.invokevirtual 91, 3) := by decide +kernel
theorem d_PatternBookModel_takeAtMost_6 : decode b_PatternBookModel_takeAtMost 6 = .ok (.iload_n 1, 1) := by decide +kernel
theorem d_PatternBookModel_takeAtMost_7 : decode b_PatternBookModel_takeAtMost 7 = .ok (.ifCond .le 29, 3) := by decide +kernel
theorem d_PatternBookModel_takeAtMost_10 : decode b_PatternBookModel_takeAtMost 10 = .ok (.iload 4, 2) := by decide +kernel
theorem d_PatternBookModel_takeAtMost_12 : decode b_PatternBookModel_takeAtMost 12 = .ok (.iconst 2, 1) := by decide +kernel
theorem d_PatternBookModel_takeAtMost_13 : decode b_PatternBookModel_takeAtMost 13 = .ok (.iadd, 1) := by decide +kernel
theorem d_PatternBookModel_takeAtMost_14 : decode b_PatternBookModel_takeAtMost 14 = .ok (.istore 5, 2) := by decide +kernel
theorem d_PatternBookModel_takeAtMost_16 : decode b_PatternBookModel_takeAtMost 16 = .ok (.aload_n 0, 1) := by decide +kernel
theorem d_PatternBookModel_takeAtMost_17 : decode b_PatternBookModel_takeAtMost 17 = .ok (.getfield 7, 3) := by decide +kernel
theorem d_PatternBookModel_takeAtMost_20 : decode b_PatternBookModel_takeAtMost 20 = .ok (.iload 5, 2) := by decide +kernel
theorem d_PatternBookModel_takeAtMost_22 : decode b_PatternBookModel_takeAtMost 22 = .ok (.bipush 32, 2) := by decide +kernel
theorem d_PatternBookModel_takeAtMost_24 : decode b_PatternBookModel_takeAtMost 24 = .ok (.idiv, 1) := by decide +kernel
theorem d_PatternBookModel_takeAtMost_25 : decode b_PatternBookModel_takeAtMost 25 = .ok (.dup2, 1) := by decide +kernel
theorem d_PatternBookModel_takeAtMost_26 : decode b_PatternBookModel_takeAtMost 26 = .ok (.laload, 1) := by decide +kernel
theorem d_PatternBookModel_takeAtMost_27 : decode b_PatternBookModel_takeAtMost 27 = .ok (.lconst 1, 1) := by decide +kernel
theorem d_PatternBookModel_takeAtMost_28 : decode b_PatternBookModel_takeAtMost 28 = .ok (.iload 5, 2) := by decide +kernel
theorem d_PatternBookModel_takeAtMost_30 : decode b_PatternBookModel_takeAtMost 30 = .ok (.bipush 32, 2) := by decide +kernel
theorem d_PatternBookModel_takeAtMost_32 : decode b_PatternBookModel_takeAtMost 32 = .ok (.irem, 1) := by decide +kernel
theorem d_PatternBookModel_takeAtMost_33 : decode b_PatternBookModel_takeAtMost 33 = .ok (.lshl, 1) := by decide +kernel
theorem d_PatternBookModel_takeAtMost_34 : decode b_PatternBookModel_takeAtMost 34 = .ok (.lor, 1) := by decide +kernel
theorem d_PatternBookModel_takeAtMost_35 : decode b_PatternBookModel_takeAtMost 35 = .ok (.lastore, 1) := by decide +kernel
theorem d_PatternBookModel_takeAtMost_36 : decode b_PatternBookModel_takeAtMost 36 = .ok (.aload_n 0, 1) := by decide +kernel
theorem d_PatternBookModel_takeAtMost_37 : decode b_PatternBookModel_takeAtMost 37 = .ok (.iconst 1, 1) := by decide +kernel
theorem d_PatternBookModel_takeAtMost_38 : decode b_PatternBookModel_takeAtMost 38 = .ok (.bipush 10, 2) := by decide +kernel
theorem d_PatternBookModel_takeAtMost_40 : decode b_PatternBookModel_takeAtMost 40 = .ok (.iload_n 3, 1) := by decide +kernel
theorem d_PatternBookModel_takeAtMost_41 : decode b_PatternBookModel_takeAtMost 41 = .ok (.invokevirtual 111, 3) := by decide +kernel
theorem d_PatternBookModel_takeAtMost_44 : decode b_PatternBookModel_takeAtMost 44 = .ok (.aload_n 0, 1) := by decide +kernel
theorem d_PatternBookModel_takeAtMost_45 : decode b_PatternBookModel_takeAtMost 45 = .ok (.iconst 0, 1) := by decide +kernel
theorem d_PatternBookModel_takeAtMost_46 : decode b_PatternBookModel_takeAtMost 46 = .ok (.iconst 1, 1) := by decide +kernel
theorem d_PatternBookModel_takeAtMost_47 : decode b_PatternBookModel_takeAtMost 47 = .ok (.invokevirtual 114, 3) := by decide +kernel
theorem d_PatternBookModel_takeAtMost_50 : decode b_PatternBookModel_takeAtMost 50 = .ok (.ifCond .ne 9, 3) := by decide +kernel
theorem d_PatternBookModel_takeAtMost_53 : decode b_PatternBookModel_takeAtMost 53 = .ok (.aload_n 0, 1) := by decide +kernel
theorem d_PatternBookModel_takeAtMost_54 : decode b_PatternBookModel_takeAtMost 54 = .ok (.iconst 0, 1) := by decide +kernel
theorem d_PatternBookModel_takeAtMost_55 : decode b_PatternBookModel_takeAtMost 55 = .ok (.lconst 0, 1) := by decide +kernel
theorem d_PatternBookModel_takeAtMost_56 : decode b_PatternBookModel_takeAtMost 56 = .ok (.invokevirtual 36, 3) := by decide +kernel
theorem d_PatternBookModel_takeAtMost_59 : decode b_PatternBookModel_takeAtMost 59 = .ok (.return_, 1) := by decide +kernel
theorem d_PatternBookModel_takeDigits_0 : decode b_PatternBookModel_takeDigits 0 = .ok (.iload_n 1, 1) := by decide +kernel
theorem d_PatternBookModel_takeDigits_1 : decode b_PatternBookModel_takeDigits 1 = .ok (.invokestatic 101, 3) := by decide +kernel
theorem d_PatternBookModel_takeDigits_4 : decode b_PatternBookModel_takeDigits 4 = .ok (.bipush 10, 2) := by decide +kernel
theorem d_PatternBookModel_takeDigits_6 : decode b_PatternBookModel_takeDigits 6 = .ok (.idiv, 1) := by decide +kernel
theorem d_PatternBookModel_takeDigits_7 : decode b_PatternBookModel_takeDigits 7 = .ok (.iconst 1, 1) := by decide +kernel
theorem d_PatternBookModel_takeDigits_8 : decode b_PatternBookModel_takeDigits 8 = .ok (.isub, 1) := by decide +kernel
theorem d_PatternBookModel_takeDigits_9 : decode b_PatternBookModel_takeDigits 9 = .ok (.istore_n 2, 1) := by decide +kernel
theorem d_PatternBookModel_takeDigits_10 : decode b_PatternBookModel_takeDigits 10 = .ok (.iload_n 2, 1) := by decide +kernel
theorem d_PatternBookModel_takeDigits_11 : decode b_PatternBookModel_takeDigits 11 = .ok (.ifCond .lt 32, 3) := by decide +kernel
theorem d_PatternBookModel_takeDigits_14 : decode b_PatternBookModel_takeDigits 14 = .ok (.aload_n 0, 1) := by decide +kernel
theorem d_PatternBookModel_takeDigits_15 : decode b_PatternBookModel_takeDigits 15 = .ok (.iconst 0, 1) := by decide +kernel
theorem d_PatternBookModel_takeDigits_16 : decode b_PatternBookModel_takeDigits 16 = .ok (.sipush 1000, 3) := by decide +kernel
theorem d_PatternBookModel_takeDigits_19 : decode b_PatternBookModel_takeDigits 19 = .ok (.aload_n 0, 1) := by decide +kernel
theorem d_PatternBookModel_takeDigits_20 : decode b_PatternBookModel_takeDigits 20 = .ok (.getfield 13, 3) := by decide +kernel
theorem d_PatternBookModel_takeDigits_23 : decode b_PatternBookModel_takeDigits 23 = .ok (.aload_n 0, 1) := by decide +kernel
theorem d_PatternBookModel_takeDigits_24 : decode b_PatternBookModel_takeDigits 24 = .ok (.bipush 10, 2) := by decide +kernel
theorem d_PatternBookModel_takeDigits_26 : decode b_PatternBookModel_takeDigits 26 = .ok (.iload_n 2, 1) := by decide +kernel
theorem d_PatternBookModel_takeDigits_27 : decode b_PatternBookModel_takeDigits 27 = .ok (.imul, 1) := by decide +kernel
theorem d_PatternBookModel_takeDigits_28 : decode b_PatternBookModel_takeDigits 28 = .ok (.bipush 10, 2) := by decide +kernel
theorem d_PatternBookModel_takeDigits_30 : decode b_PatternBookModel_takeDigits 30 = .ok (.invokevirtual 88, 3) := by decide +kernel
theorem d_PatternBookModel_takeDigits_33 : decode b_PatternBookModel_takeDigits 33 = .ok (.iaload, 1) := by decide +kernel
theorem d_PatternBookModel_takeDigits_34 : decode b_PatternBookModel_takeDigits 34 = .ok (.invokevirtual 40, 3) := by decide +kernel
theorem d_PatternBookModel_takeDigits_37 : decode b_PatternBookModel_takeDigits 37 = .ok (.iinc 2 (-1), 3) := by decide +kernel
theorem d_PatternBookModel_takeDigits_40 : decode b_PatternBookModel_takeDigits 40 = .ok (.goto (-30), 3) := by decide +kernel
theorem d_PatternBookModel_takeDigits_43 : decode b_PatternBookModel_takeDigits 43 = .ok (.return_, 1) := by decide +kernel
theorem d_PatternBookModel_openBinary_0 : decode b_PatternBookModel_openBinary 0 = .ok (.iload_n 1, 1) := by decide +kernel
theorem d_PatternBookModel_openBinary_1 : decode b_PatternBookModel_openBinary 1 = .ok (.invokestatic 31, 3) := by decide +kernel
theorem d_PatternBookModel_openBinary_4 : decode b_PatternBookModel_openBinary 4 = .ok (.istore_n 2, 1) := by decide +kernel
theorem d_PatternBookModel_openBinary_5 : decode b_PatternBookModel_openBinary 5 = .ok (.iload_n 1, 1) := by decide +kernel
theorem d_PatternBookModel_openBinary_6 : decode b_PatternBookModel_openBinary 6 = .ok (.invokestatic 66, 3) := by decide +kernel
theorem d_PatternBookModel_openBinary_9 : decode b_PatternBookModel_openBinary 9 = .ok (.iload_n 2, 1) := by decide +kernel
theorem d_PatternBookModel_openBinary_10 : decode b_PatternBookModel_openBinary 10 = .ok (.isub, 1) := by decide +kernel
theorem d_PatternBookModel_openBinary_11 : decode b_PatternBookModel_openBinary 11 = .ok (.istore_n 3, 1) := by decide +kernel
theorem d_PatternBookModel_openBinary_12 : decode b_PatternBookModel_openBinary 12 = .ok (.aload_n 0, 1) := by decide +kernel
theorem d_PatternBookModel_openBinary_13 : decode b_PatternBookModel_openBinary 13 = .ok (.iload_n 2, 1) := by decide +kernel
theorem d_PatternBookModel_openBinary_14 : decode b_PatternBookModel_openBinary 14 = .ok (.iconst 1, 1) := by decide +kernel
theorem d_PatternBookModel_openBinary_15 : decode b_PatternBookModel_openBinary 15 = .ok (.isub, 1) := by decide +kernel
theorem d_PatternBookModel_openBinary_16 : decode b_PatternBookModel_openBinary 16 = .ok (.iload_n 3, 1) := by decide +kernel
theorem d_PatternBookModel_openBinary_17 : decode b_PatternBookModel_openBinary 17 = .ok (.invokevirtual 88, 3) := by decide +kernel
theorem d_PatternBookModel_openBinary_20 : decode b_PatternBookModel_openBinary 20 = .ok (.istore 4, 2) := by decide +kernel
theorem d_PatternBookModel_openBinary_22 : decode b_PatternBookModel_openBinary 22 = .ok (.aload_n 0, 1) := by decide +kernel
theorem d_PatternBookModel_openBinary_23 : decode b_PatternBookModel_openBinary 23 = .ok (.iconst 0, 1) := by decide +kernel
theorem d_PatternBookModel_openBinary_24 : decode b_PatternBookModel_openBinary 24 = .ok (.iload_n 2, 1) := by decide +kernel
theorem d_PatternBookModel_openBinary_25 : decode b_PatternBookModel_openBinary 25 = .ok (.iconst 1, 1) := by decide +kernel
theorem d_PatternBookModel_openBinary_26 : decode b_PatternBookModel_openBinary 26 = .ok (.isub, 1) := by decide +kernel
theorem d_PatternBookModel_openBinary_27 : decode b_PatternBookModel_openBinary 27 = .ok (.invokevirtual 91, 3) := by decide +kernel
theorem d_PatternBookModel_openBinary_30 : decode b_PatternBookModel_openBinary 30 = .ok (.iload 4, 2) := by decide +kernel
theorem d_PatternBookModel_openBinary_32 : decode b_PatternBookModel_openBinary 32 = .ok (.iconst 1, 1) := by decide +kernel
theorem d_PatternBookModel_openBinary_33 : decode b_PatternBookModel_openBinary 33 = .ok (.iload_n 3, 1) := by decide +kernel
theorem d_PatternBookModel_openBinary_34 : decode b_PatternBookModel_openBinary 34 = .ok (.ishl, 1) := by decide +kernel
theorem d_PatternBookModel_openBinary_35 : decode b_PatternBookModel_openBinary 35 = .ok (.iconst 1, 1) := by decide +kernel
theorem d_PatternBookModel_openBinary_36 : decode b_PatternBookModel_openBinary 36 = .ok (.isub, 1) := by decide +kernel
theorem d_PatternBookModel_openBinary_37 : decode b_PatternBookModel_openBinary 37 = .ok (.if_icmp .ne 46, 3) := by decide +kernel
theorem d_PatternBookModel_openBinary_40 : decode b_PatternBookModel_openBinary 40 = .ok (.aload_n 0, 1) := by decide +kernel
theorem d_PatternBookModel_openBinary_41 : decode b_PatternBookModel_openBinary 41 = .ok (.iconst 0, 1) := by decide +kernel
theorem d_PatternBookModel_openBinary_42 : decode b_PatternBookModel_openBinary 42 = .ok (.invokevirtual 94, 3) := by decide +kernel
theorem d_PatternBookModel_openBinary_45 : decode b_PatternBookModel_openBinary 45 = .ok (.ifCond .eq 9, 3) := by decide +kernel
theorem d_PatternBookModel_openBinary_48 : decode b_PatternBookModel_openBinary 48 = .ok (.aload_n 0, 1) := by decide +kernel
theorem d_PatternBookModel_openBinary_49 : decode b_PatternBookModel_openBinary 49 = .ok (.iconst 1, 1) := by decide +kernel
theorem d_PatternBookModel_openBinary_50 : decode b_PatternBookModel_openBinary 50 = .ok (.putfield 76, 3) := by decide +kernel
theorem d_PatternBookModel_openBinary_53 : decode b_PatternBookModel_openBinary 53 = .ok (.return_, 1) := by decide +kernel
theorem d_PatternBookModel_openBinary_54 : decode b_PatternBookModel_openBinary 54 = .ok (.aload_n 0, 1) := by decide +kernel
theorem d_PatternBookModel_openBinary_55 : decode b_PatternBookModel_openBinary 55 = .ok (.aload_n 0, 1) := by decide +kernel
theorem d_PatternBookModel_openBinary_56 : decode b_PatternBookModel_openBinary 56 = .ok (.iload_n 2, 1) := by decide +kernel
theorem d_PatternBookModel_openBinary_57 : decode b_PatternBookModel_openBinary 57 = .ok (.iconst 2, 1) := by decide +kernel
theorem d_PatternBookModel_openBinary_58 : decode b_PatternBookModel_openBinary 58 = .ok (.isub, 1) := by decide +kernel
theorem d_PatternBookModel_openBinary_59 : decode b_PatternBookModel_openBinary 59 = .ok (.invokevirtual 51, 3) := by decide +kernel
theorem d_PatternBookModel_openBinary_62 : decode b_PatternBookModel_openBinary 62 = .ok (.iconst 1, 1) := by decide +kernel
theorem d_PatternBookModel_openBinary_63 : decode b_PatternBookModel_openBinary 63 = .ok (.if_icmp .ne 7, 3) := by decide +kernel
theorem d_PatternBookModel_openBinary_66 : decode b_PatternBookModel_openBinary 66 = .ok (.iconst 2, 1) := by decide +kernel
theorem d_PatternBookModel_openBinary_67 : decode b_PatternBookModel_openBinary 67 = .ok (.goto 4, 3) := by decide +kernel
theorem d_PatternBookModel_openBinary_70 : decode b_PatternBookModel_openBinary 70 = .ok (.iconst 3, 1) := by decide +kernel
theorem d_PatternBookModel_openBinary_71 : decode b_PatternBookModel_openBinary 71 = .ok (.putfield 76, 3) := by decide +kernel
theorem d_PatternBookModel_openBinary_74 : decode b_PatternBookModel_openBinary 74 = .ok (.aload_n 0, 1) := by decide +kernel
theorem d_PatternBookModel_openBinary_75 : decode b_PatternBookModel_openBinary 75 = .ok (.iconst 0, 1) := by decide +kernel
theorem d_PatternBookModel_openBinary_76 : decode b_PatternBookModel_openBinary 76 = .ok (.iload_n 2, 1) := by decide +kernel
theorem d_PatternBookModel_openBinary_77 : decode b_PatternBookModel_openBinary 77 = .ok (.iconst 2, 1) := by decide +kernel
theorem d_PatternBookModel_openBinary_78 : decode b_PatternBookModel_openBinary 78 = .ok (.isub, 1) := by decide +kernel
theorem d_PatternBookModel_openBinary_79 : decode b_PatternBookModel_openBinary 79 = .ok (.invokevirtual 91, 3) := by decide +kernel
theorem d_PatternBookModel_openBinary_82 : decode b_PatternBookModel_openBinary 82 = .ok (.return_, 1) := by decide +kernel
theorem d_PatternBookModel_openBinary_83 : decode b_PatternBookModel_openBinary 83 = .ok (.aload_n 0, 1) := by decide +kernel
theorem d_PatternBookModel_openBinary_84 : decode b_PatternBookModel_openBinary 84 = .ok (.iload 4, 2) := by decide +kernel
theorem d_PatternBookModel_openBinary_86 : decode b_PatternBookModel_openBinary 86 = .ok (.ifCond .ne 10, 3) := by decide +kernel
theorem d_PatternBookModel_openBinary_89 : decode b_PatternBookModel_openBinary 89 = .ok (.iload_n 1, 1) := by decide +kernel
theorem d_PatternBookModel_openBinary_90 : decode b_PatternBookModel_openBinary 90 = .ok (.invokestatic 98, 3) := by decide +kernel
theorem d_PatternBookModel_openBinary_93 : decode b_PatternBookModel_openBinary 93 = .ok (.goto 12, 3) := by decide +kernel
theorem d_PatternBookModel_openBinary_96 : decode b_PatternBookModel_openBinary 96 = .ok (.iload 4, 2) := by decide +kernel
theorem d_PatternBookModel_openBinary_98 : decode b_PatternBookModel_openBinary 98 = .ok (.iconst 1, 1) := by decide +kernel
theorem d_PatternBookModel_openBinary_99 : decode b_PatternBookModel_openBinary 99 = .ok (.isub, 1) := by decide +kernel
theorem d_PatternBookModel_openBinary_100 : decode b_PatternBookModel_openBinary 100 = .ok (.iload_n 1, 1) := by decide +kernel
theorem d_PatternBookModel_openBinary_101 : decode b_PatternBookModel_openBinary 101 = .ok (.invokestatic 98, 3) := by decide +kernel
theorem d_PatternBookModel_openBinary_104 : decode b_PatternBookModel_openBinary 104 = .ok (.iadd, 1) := by decide +kernel
theorem d_PatternBookModel_openBinary_105 : decode b_PatternBookModel_openBinary 105 = .ok (.putfield 79, 3) := by decide +kernel
theorem d_PatternBookModel_openBinary_108 : decode b_PatternBookModel_openBinary 108 = .ok (.iload 4, 2) := by decide +kernel
theorem d_PatternBookModel_openBinary_110 : decode b_PatternBookModel_openBinary 110 = .ok (.ifCond .ne 4, 3) := by decide +kernel
theorem d_PatternBookModel_openBinary_113 : decode b_PatternBookModel_openBinary 113 = .ok (.return_, 1) := by decide +kernel
theorem d_PatternBookModel_openBinary_114 : decode b_PatternBookModel_openBinary 114 = .ok (.aload_n 0, 1) := by decide +kernel
theorem d_PatternBookModel_openBinary_115 : decode b_PatternBookModel_openBinary 115 = .ok (.getfield 7, 3) := by decide +kernel
theorem d_PatternBookModel_openBinary_118 : decode b_PatternBookModel_openBinary 118 = .ok (.iload_n 2, 1) := by decide +kernel
theorem d_PatternBookModel_openBinary_119 : decode b_PatternBookModel_openBinary 119 = .ok (.iconst 1, 1) := by decide +kernel
theorem d_PatternBookModel_openBinary_120 : decode b_PatternBookModel_openBinary 120 = .ok (.isub, 1) := by decide +kernel
theorem d_PatternBookModel_openBinary_121 : decode b_PatternBookModel_openBinary 121 = .ok (.bipush 32, 2) := by decide +kernel
theorem d_PatternBookModel_openBinary_123 : decode b_PatternBookModel_openBinary 123 = .ok (.idiv, 1) := by decide +kernel
theorem d_PatternBookModel_openBinary_124 : decode b_PatternBookModel_openBinary 124 = .ok (.dup2, 1) := by decide +kernel
theorem d_PatternBookModel_openBinary_125 : decode b_PatternBookModel_openBinary 125 = .ok (.laload, 1) := by decide +kernel
theorem d_PatternBookModel_openBinary_126 : decode b_PatternBookModel_openBinary 126 = .ok (.lconst 1, 1) := by decide +kernel
theorem d_PatternBookModel_openBinary_127 : decode b_PatternBookModel_openBinary 127 = .ok (.iload_n 2, 1) := by decide +kernel
theorem d_PatternBookModel_openBinary_128 : decode b_PatternBookModel_openBinary 128 = .ok (.iconst 1, 1) := by decide +kernel
theorem d_PatternBookModel_openBinary_129 : decode b_PatternBookModel_openBinary 129 = .ok (.isub, 1) := by decide +kernel
theorem d_PatternBookModel_openBinary_130 : decode b_PatternBookModel_openBinary 130 = .ok (.bipush 32, 2) := by decide +kernel
theorem d_PatternBookModel_openBinary_132 : decode b_PatternBookModel_openBinary 132 = .ok (.irem, 1) := by decide +kernel
theorem d_PatternBookModel_openBinary_133 : decode b_PatternBookModel_openBinary 133 = .ok (.lshl, 1) := by decide +kernel
theorem d_PatternBookModel_openBinary_134 : decode b_PatternBookModel_openBinary 134 = .ok (.lor, 1) := by decide +kernel
theorem d_PatternBookModel_openBinary_135 : decode b_PatternBookModel_openBinary 135 = .ok (.lastore, 1) := by decide +kernel
theorem d_PatternBookModel_openBinary_136 : decode b_PatternBookModel_openBinary 136 = .ok (.return_, 1) := by decide +kernel
theorem d_PatternBookModel_openDecimal_0 : decode b_PatternBookModel_openDecimal 0 = .ok (.iload_n 1, 1) := by decide +kernel
theorem d_PatternBookModel_openDecimal_1 : decode b_PatternBookModel_openDecimal 1 = .ok (.invokestatic 66, 3) := by decide +kernel
theorem d_PatternBookModel_openDecimal_4 : decode b_PatternBookModel_openDecimal 4 = .ok (.istore_n 2, 1) := by decide +kernel
theorem d_PatternBookModel_openDecimal_5 : decode b_PatternBookModel_openDecimal 5 = .ok (.iload_n 1, 1) := by decide +kernel
theorem d_PatternBookModel_openDecimal_6 : decode b_PatternBookModel_openDecimal 6 = .ok (.invokestatic 101, 3) := by decide +kernel
theorem d_PatternBookModel_openDecimal_9 : decode b_PatternBookModel_openDecimal 9 = .ok (.istore_n 3, 1) := by decide +kernel
theorem d_PatternBookModel_openDecimal_10 : decode b_PatternBookModel_openDecimal 10 = .ok (.iload_n 2, 1) := by decide +kernel
theorem d_PatternBookModel_openDecimal_11 : decode b_PatternBookModel_openDecimal 11 = .ok (.iconst 1, 1) := by decide +kernel
theorem d_PatternBookModel_openDecimal_12 : decode b_PatternBookModel_openDecimal 12 = .ok (.isub, 1) := by decide +kernel
theorem d_PatternBookModel_openDecimal_13 : decode b_PatternBookModel_openDecimal 13 = .ok (.iload_n 3, 1) := by decide +kernel
theorem d_PatternBookModel_openDecimal_14 : decode b_PatternBookModel_openDecimal 14 = .ok (.isub, 1) := by decide +kernel
theorem d_PatternBookModel_openDecimal_15 : decode b_PatternBookModel_openDecimal 15 = .ok (.istore 4, 2) := by decide +kernel
theorem d_PatternBookModel_openDecimal_17 : decode b_PatternBookModel_openDecimal 17 = .ok (.aload_n 0, 1) := by decide +kernel
theorem d_PatternBookModel_openDecimal_18 : decode b_PatternBookModel_openDecimal 18 = .ok (.iload_n 2, 1) := by decide +kernel
theorem d_PatternBookModel_openDecimal_19 : decode b_PatternBookModel_openDecimal 19 = .ok (.bipush 6, 2) := by decide +kernel
theorem d_PatternBookModel_openDecimal_21 : decode b_PatternBookModel_openDecimal 21 = .ok (.isub, 1) := by decide +kernel
theorem d_PatternBookModel_openDecimal_22 : decode b_PatternBookModel_openDecimal 22 = .ok (.iconst 5, 1) := by decide +kernel
theorem d_PatternBookModel_openDecimal_23 : decode b_PatternBookModel_openDecimal 23 = .ok (.invokevirtual 88, 3) := by decide +kernel
theorem d_PatternBookModel_openDecimal_26 : decode b_PatternBookModel_openDecimal 26 = .ok (.istore 5, 2) := by decide +kernel
theorem d_PatternBookModel_openDecimal_28 : decode b_PatternBookModel_openDecimal 28 = .ok (.iload_n 1, 1) := by decide +kernel
theorem d_PatternBookModel_openDecimal_29 : decode b_PatternBookModel_openDecimal 29 = .ok (.bipush 6, 2) := by decide +kernel
theorem d_PatternBookModel_openDecimal_31 : decode b_PatternBookModel_openDecimal 31 = .ok (.if_icmp .le 7, 3) := by decide +kernel
theorem d_PatternBookModel_openDecimal_34 : decode b_PatternBookModel_openDecimal 34 = .ok (.iconst 1, 1) := by decide +kernel
theorem d_PatternBookModel_openDecimal_35 : decode b_PatternBookModel_openDecimal 35 = .ok (.goto 4, 3) := by decide +kernel
theorem d_PatternBookModel_openDecimal_38 : decode b_PatternBookModel_openDecimal 38 = .ok (.iconst 0, 1) := by decide +kernel
theorem d_PatternBookModel_openDecimal_39 : decode b_PatternBookModel_openDecimal 39 = .ok (.istore 6, 2) := by decide +kernel
theorem d_PatternBookModel_openDecimal_41 : decode b_PatternBookModel_openDecimal 41 = .ok (.aload_n 0, 1) := by decide +kernel
theorem d_PatternBookModel_openDecimal_42 : decode b_PatternBookModel_openDecimal 42 = .ok (.iconst 0, 1) := by decide +kernel
theorem d_PatternBookModel_openDecimal_43 : decode b_PatternBookModel_openDecimal 43 = .ok (.lconst 0, 1) := by decide +kernel
theorem d_PatternBookModel_openDecimal_44 : decode b_PatternBookModel_openDecimal 44 = .ok (.invokevirtual 36, 3) := by decide +kernel
theorem d_PatternBookModel_openDecimal_47 : decode b_PatternBookModel_openDecimal 47 = .ok (.iload 5, 2) := by decide +kernel
theorem d_PatternBookModel_openDecimal_49 : decode b_PatternBookModel_openDecimal 49 = .ok (.bipush 30, 2) := by decide +kernel
theorem d_PatternBookModel_openDecimal_51 : decode b_PatternBookModel_openDecimal 51 = .ok (.if_icmp .ne 9, 3) := by decide +kernel
theorem d_PatternBookModel_openDecimal_54 : decode b_PatternBookModel_openDecimal 54 = .ok (.aload_n 0, 1) := by decide +kernel
theorem d_PatternBookModel_openDecimal_55 : decode b_PatternBookModel_openDecimal 55 = .ok (.iconst 1, 1) := by decide +kernel
theorem d_PatternBookModel_openDecimal_56 : decode b_PatternBookModel_openDecimal 56 = .ok (.putfield 76, 3) := by decide +kernel
theorem d_PatternBookModel_openDecimal_59 : decode b_PatternBookModel_openDecimal 59 = .ok (.return_, 1) := by decide +kernel
theorem d_PatternBookModel_openDecimal_60 : decode b_PatternBookModel_openDecimal 60 = .ok (.iload 5, 2) := by decide +kernel
theorem d_PatternBookModel_openDecimal_62 : decode b_PatternBookModel_openDecimal 62 = .ok (.bipush 31, 2) := by decide +kernel
theorem d_PatternBookModel_openDecimal_64 : decode b_PatternBookModel_openDecimal 64 = .ok (.if_icmp .ne 51, 3) := by decide +kernel
theorem d_PatternBookModel_openDecimal_67 : decode b_PatternBookModel_openDecimal 67 = .ok (.aload_n 0, 1) := by decide +kernel
theorem d_PatternBookModel_openDecimal_68 : decode b_PatternBookModel_openDecimal 68 = .ok (.aload_n 0, 1) := by decide +kernel
theorem d_PatternBookModel_openDecimal_69 : decode b_PatternBookModel_openDecimal 69 = .ok (.iload_n 2, 1) := by decide +kernel
theorem d_PatternBookModel_openDecimal_70 : decode b_PatternBookModel_openDecimal 70 = .ok (.bipush 7, 2) := by decide +kernel
theorem d_PatternBookModel_openDecimal_72 : decode b_PatternBookModel_openDecimal 72 = .ok (.isub, 1) := by decide +kernel
theorem d_PatternBookModel_openDecimal_73 : decode b_PatternBookModel_openDecimal 73 = .ok (.invokevirtual 51, 3) := by decide +kernel
theorem d_PatternBookModel_openDecimal_76 : decode b_PatternBookModel_openDecimal 76 = .ok (.iconst 1, 1) := by decide +kernel
theorem d_PatternBookModel_openDecimal_77 : decode b_PatternBookModel_openDecimal 77 = .ok (.if_icmp .ne 7, 3) := by decide +kernel
theorem d_PatternBookModel_openDecimal_80 : decode b_PatternBookModel_openDecimal 80 = .ok (.iconst 3, 1) := by decide +kernel
theorem d_PatternBookModel_openDecimal_81 : decode b_PatternBookModel_openDecimal 81 = .ok (.goto 4, 3) := by decide +kernel
theorem d_PatternBookModel_openDecimal_84 : decode b_PatternBookModel_openDecimal 84 = .ok (.iconst 2, 1) := by decide +kernel
theorem d_PatternBookModel_openDecimal_85 : decode b_PatternBookModel_openDecimal 85 = .ok (.putfield 76, 3) := by decide +kernel
theorem d_PatternBookModel_openDecimal_88 : decode b_PatternBookModel_openDecimal 88 = .ok (.iload 6, 2) := by decide +kernel
theorem d_PatternBookModel_openDecimal_90 : decode b_PatternBookModel_openDecimal 90 = .ok (.ifCond .eq 11, 3) := by decide +kernel
theorem d_PatternBookModel_openDecimal_93 : decode b_PatternBookModel_openDecimal 93 = .ok (.aload_n 0, 1) := by decide +kernel
theorem d_PatternBookModel_openDecimal_94 : decode b_PatternBookModel_openDecimal 94 = .ok (.iload_n 1, 1) := by decide +kernel
theorem d_PatternBookModel_openDecimal_95 : decode b_PatternBookModel_openDecimal 95 = .ok (.invokevirtual 104, 3) := by decide +kernel
theorem d_PatternBookModel_openDecimal_98 : decode b_PatternBookModel_openDecimal 98 = .ok (.goto 16, 3) := by decide +kernel
theorem d_PatternBookModel_openDecimal_101 : decode b_PatternBookModel_openDecimal 101 = .ok (.aload_n 0, 1) := by decide +kernel
theorem d_PatternBookModel_openDecimal_102 : decode b_PatternBookModel_openDecimal 102 = .ok (.iconst 0, 1) := by decide +kernel
theorem d_PatternBookModel_openDecimal_103 : decode b_PatternBookModel_openDecimal 103 = .ok (.iload_n 3, 1) := by decide +kernel
theorem d_PatternBookModel_openDecimal_104 : decode b_PatternBookModel_openDecimal 104 = .ok (.iload_n 1, 1) := by decide +kernel
theorem d_PatternBookModel_openDecimal_105 : decode b_PatternBookModel_openDecimal 105 = .ok (.invokestatic 31, 3) := by decide +kernel
theorem d_PatternBookModel_openDecimal_108 : decode b_PatternBookModel_openDecimal 108 = .ok (.iconst 1, 1) := by decide +kernel
theorem d_PatternBookModel_openDecimal_109 : decode b_PatternBookModel_openDecimal 109 = .ok (.isub, 1) := by decide +kernel
theorem d_PatternBookModel_openDecimal_110 : decode b_PatternBookModel_openDecimal 110 = .ok (.iconst 0, 1) := by decide +kernel
theorem d_PatternBookModel_openDecimal_111 : decode b_PatternBookModel_openDecimal 111 = .ok (.invokevirtual 107, 3) := by decide +kernel
theorem d_PatternBookModel_openDecimal_114 : decode b_PatternBookModel_openDecimal 114 = .ok (.return_, 1) := by decide +kernel
theorem d_PatternBookModel_openDecimal_115 : decode b_PatternBookModel_openDecimal 115 = .ok (.iload 5, 2) := by decide +kernel
theorem d_PatternBookModel_openDecimal_117 : decode b_PatternBookModel_openDecimal 117 = .ok (.bipush 24, 2) := by decide +kernel
theorem d_PatternBookModel_openDecimal_119 : decode b_PatternBookModel_openDecimal 119 = .ok (.if_icmp .ge 7, 3) := by decide +kernel
theorem d_PatternBookModel_openDecimal_122 : decode b_PatternBookModel_openDecimal 122 = .ok (.iconst 1, 1) := by decide +kernel
theorem d_PatternBookModel_openDecimal_123 : decode b_PatternBookModel_openDecimal 123 = .ok (.goto 4, 3) := by decide +kernel
theorem d_PatternBookModel_openDecimal_126 : decode b_PatternBookModel_openDecimal 126 = .ok (.iconst 0, 1) := by decide +kernel
theorem d_PatternBookModel_openDecimal_127 : decode b_PatternBookModel_openDecimal 127 = .ok (.istore 7, 2) := by decide +kernel
theorem d_PatternBookModel_openDecimal_129 : decode b_PatternBookModel_openDecimal 129 = .ok (.iload 6, 2) := by decide +kernel
theorem d_PatternBookModel_openDecimal_131 : decode b_PatternBookModel_openDecimal 131 = .ok (.ifCond .eq 80, 3) := by decide +kernel
theorem d_PatternBookModel_openDecimal_134 : decode b_PatternBookModel_openDecimal 134 = .ok (.iload 7, 2) := by decide +kernel
theorem d_PatternBookModel_openDecimal_136 : decode b_PatternBookModel_openDecimal 136 = .ok (.ifCond .eq 11, 3) := by decide +kernel
theorem d_PatternBookModel_openDecimal_139 : decode b_PatternBookModel_openDecimal 139 = .ok (.iload 5, 2) := by decide +kernel
theorem d_PatternBookModel_openDecimal_141 : decode b_PatternBookModel_openDecimal 141 = .ok (.bipush 8, 2) := by decide +kernel
theorem d_PatternBookModel_openDecimal_143 : decode b_PatternBookModel_openDecimal 143 = .ok (.idiv, 1) := by decide +kernel
theorem d_PatternBookModel_openDecimal_144 : decode b_PatternBookModel_openDecimal 144 = .ok (.goto 9, 3) := by decide +kernel
theorem d_PatternBookModel_openDecimal_147 : decode b_PatternBookModel_openDecimal 147 = .ok (.iload 5, 2) := by decide +kernel
theorem d_PatternBookModel_openDecimal_149 : decode b_PatternBookModel_openDecimal 149 = .ok (.iconst 2, 1) := by decide +kernel
theorem d_PatternBookModel_openDecimal_150 : decode b_PatternBookModel_openDecimal 150 = .ok (.idiv, 1) := by decide +kernel
theorem d_PatternBookModel_openDecimal_151 : decode b_PatternBookModel_openDecimal 151 = .ok (.iconst 4, 1) := by decide +kernel
theorem d_PatternBookModel_openDecimal_152 : decode b_PatternBookModel_openDecimal 152 = .ok (.irem, 1) := by decide +kernel
theorem d_PatternBookModel_openDecimal_153 : decode b_PatternBookModel_openDecimal 153 = .ok (.istore 9, 2) := by decide +kernel
theorem d_PatternBookModel_openDecimal_155 : decode b_PatternBookModel_openDecimal 155 = .ok (.iload 9, 2) := by decide +kernel
theorem d_PatternBookModel_openDecimal_157 : decode b_PatternBookModel_openDecimal 157 = .ok (.iconst 1, 1) := by decide +kernel
theorem d_PatternBookModel_openDecimal_158 : decode b_PatternBookModel_openDecimal 158 = .ok (.iload 4, 2) := by decide +kernel
theorem d_PatternBookModel_openDecimal_160 : decode b_PatternBookModel_openDecimal 160 = .ok (.iconst 5, 1) := by decide +kernel
theorem d_PatternBookModel_openDecimal_161 : decode b_PatternBookModel_openDecimal 161 = .ok (.isub, 1) := by decide +kernel
theorem d_PatternBookModel_openDecimal_162 : decode b_PatternBookModel_openDecimal 162 = .ok (.ishl, 1) := by decide +kernel
theorem d_PatternBookModel_openDecimal_163 : decode b_PatternBookModel_openDecimal 163 = .ok (.imul, 1) := by decide +kernel
theorem d_PatternBookModel_openDecimal_164 : decode b_PatternBookModel_openDecimal 164 = .ok (.aload_n 0, 1) := by decide +kernel
theorem d_PatternBookModel_openDecimal_165 : decode b_PatternBookModel_openDecimal 165 = .ok (.iload_n 3, 1) := by decide +kernel
theorem d_PatternBookModel_openDecimal_166 : decode b_PatternBookModel_openDecimal 166 = .ok (.iload 4, 2) := by decide +kernel
theorem d_PatternBookModel_openDecimal_168 : decode b_PatternBookModel_openDecimal 168 = .ok (.iconst 5, 1) := by decide +kernel
theorem d_PatternBookModel_openDecimal_169 : decode b_PatternBookModel_openDecimal 169 = .ok (.isub, 1) := by decide +kernel
theorem d_PatternBookModel_openDecimal_170 : decode b_PatternBookModel_openDecimal 170 = .ok (.invokevirtual 88, 3) := by decide +kernel
theorem d_PatternBookModel_openDecimal_173 : decode b_PatternBookModel_openDecimal 173 = .ok (.iadd, 1) := by decide +kernel
theorem d_PatternBookModel_openDecimal_174 : decode b_PatternBookModel_openDecimal 174 = .ok (.istore 8, 2) := by decide +kernel
theorem d_PatternBookModel_openDecimal_176 : decode b_PatternBookModel_openDecimal 176 = .ok (.aload_n 0, 1) := by decide +kernel
theorem d_PatternBookModel_openDecimal_177 : decode b_PatternBookModel_openDecimal 177 = .ok (.iconst 0, 1) := by decide +kernel
theorem d_PatternBookModel_openDecimal_178 : decode b_PatternBookModel_openDecimal 178 = .ok (.iload 7, 2) := by decide +kernel
theorem d_PatternBookModel_openDecimal_180 : decode b_PatternBookModel_openDecimal 180 = .ok (.ifCond .eq 12, 3) := by decide +kernel
theorem d_PatternBookModel_openDecimal_183 : decode b_PatternBookModel_openDecimal 183 = .ok (.iload 5, 2) := by decide +kernel
theorem d_PatternBookModel_openDecimal_185 : decode b_PatternBookModel_openDecimal 185 = .ok (.bipush 8, 2) := by decide +kernel
theorem d_PatternBookModel_openDecimal_187 : decode b_PatternBookModel_openDecimal 187 = .ok (.irem, 1) := by decide +kernel
theorem d_PatternBookModel_openDecimal_188 : decode b_PatternBookModel_openDecimal 188 = .ok (.i2l, 1) := by decide +kernel
theorem d_PatternBookModel_openDecimal_189 : decode b_PatternBookModel_openDecimal 189 = .ok (.goto 11, 3) := by decide +kernel
theorem d_PatternBookModel_openDecimal_192 : decode b_PatternBookModel_openDecimal 192 = .ok (.bipush 8, 2) := by decide +kernel
theorem d_PatternBookModel_openDecimal_194 : decode b_PatternBookModel_openDecimal 194 = .ok (.iload 5, 2) := by decide +kernel
theorem d_PatternBookModel_openDecimal_196 : decode b_PatternBookModel_openDecimal 196 = .ok (.iconst 2, 1) := by decide +kernel
theorem d_PatternBookModel_openDecimal_197 : decode b_PatternBookModel_openDecimal 197 = .ok (.irem, 1) := by decide +kernel
theorem d_PatternBookModel_openDecimal_198 : decode b_PatternBookModel_openDecimal 198 = .ok (.iadd, 1) := by decide +kernel
theorem d_PatternBookModel_openDecimal_199 : decode b_PatternBookModel_openDecimal 199 = .ok (.i2l, 1) := by decide +kernel
theorem d_PatternBookModel_openDecimal_200 : decode b_PatternBookModel_openDecimal 200 = .ok (.invokevirtual 36, 3) := by decide +kernel
theorem d_PatternBookModel_openDecimal_203 : decode b_PatternBookModel_openDecimal 203 = .ok (.aload_n 0, 1) := by decide +kernel
theorem d_PatternBookModel_openDecimal_204 : decode b_PatternBookModel_openDecimal 204 = .ok (.iload_n 1, 1) := by decide +kernel
theorem d_PatternBookModel_openDecimal_205 : decode b_PatternBookModel_openDecimal 205 = .ok (.invokevirtual 104, 3) := by decide +kernel
theorem d_PatternBookModel_openDecimal_208 : decode b_PatternBookModel_openDecimal 208 = .ok (.goto 71, 3) := by decide +kernel
theorem d_PatternBookModel_openDecimal_211 : decode b_PatternBookModel_openDecimal 211 = .ok (.aload_n 0, 1) := by decide +kernel
theorem d_PatternBookModel_openDecimal_212 : decode b_PatternBookModel_openDecimal 212 = .ok (.iload 7, 2) := by decide +kernel
theorem d_PatternBookModel_openDecimal_214 : decode b_PatternBookModel_openDecimal 214 = .ok (.ifCond .eq 9, 3) := by decide +kernel
theorem d_PatternBookModel_openDecimal_217 : decode b_PatternBookModel_openDecimal 217 = .ok (.iload_n 3, 1) := by decide +kernel
theorem d_PatternBookModel_openDecimal_218 : decode b_PatternBookModel_openDecimal 218 = .ok (.iconst 3, 1) := by decide +kernel
theorem d_PatternBookModel_openDecimal_219 : decode b_PatternBookModel_openDecimal 219 = .ok (.iadd, 1) := by decide +kernel
theorem d_PatternBookModel_openDecimal_220 : decode b_PatternBookModel_openDecimal 220 = .ok (.goto 6, 3) := by decide +kernel
theorem d_PatternBookModel_openDecimal_223 : decode b_PatternBookModel_openDecimal 223 = .ok (.iload_n 3, 1) := by decide +kernel
theorem d_PatternBookModel_openDecimal_224 : decode b_PatternBookModel_openDecimal 224 = .ok (.iconst 1, 1) := by decide +kernel
theorem d_PatternBookModel_openDecimal_225 : decode b_PatternBookModel_openDecimal 225 = .ok (.iadd, 1) := by decide +kernel
theorem d_PatternBookModel_openDecimal_226 : decode b_PatternBookModel_openDecimal 226 = .ok (.iload 4, 2) := by decide +kernel
theorem d_PatternBookModel_openDecimal_228 : decode b_PatternBookModel_openDecimal 228 = .ok (.iconst 3, 1) := by decide +kernel
theorem d_PatternBookModel_openDecimal_229 : decode b_PatternBookModel_openDecimal 229 = .ok (.isub, 1) := by decide +kernel
theorem d_PatternBookModel_openDecimal_230 : decode b_PatternBookModel_openDecimal 230 = .ok (.invokevirtual 88, 3) := by decide +kernel
theorem d_PatternBookModel_openDecimal_233 : decode b_PatternBookModel_openDecimal 233 = .ok (.istore 8, 2) := by decide +kernel
theorem d_PatternBookModel_openDecimal_235 : decode b_PatternBookModel_openDecimal 235 = .ok (.aload_n 0, 1) := by decide +kernel
theorem d_PatternBookModel_openDecimal_236 : decode b_PatternBookModel_openDecimal 236 = .ok (.iload 7, 2) := by decide +kernel
theorem d_PatternBookModel_openDecimal_238 : decode b_PatternBookModel_openDecimal 238 = .ok (.ifCond .eq 7, 3) := by decide +kernel
theorem d_PatternBookModel_openDecimal_241 : decode b_PatternBookModel_openDecimal 241 = .ok (.iconst 0, 1) := by decide +kernel
theorem d_PatternBookModel_openDecimal_242 : decode b_PatternBookModel_openDecimal 242 = .ok (.goto 4, 3) := by decide +kernel
theorem d_PatternBookModel_openDecimal_245 : decode b_PatternBookModel_openDecimal 245 = .ok (.iconst 4, 1) := by decide +kernel
theorem d_PatternBookModel_openDecimal_246 : decode b_PatternBookModel_openDecimal 246 = .ok (.iload 7, 2) := by decide +kernel
theorem d_PatternBookModel_openDecimal_248 : decode b_PatternBookModel_openDecimal 248 = .ok (.ifCond .eq 9, 3) := by decide +kernel
theorem d_PatternBookModel_openDecimal_251 : decode b_PatternBookModel_openDecimal 251 = .ok (.iload_n 3, 1) := by decide +kernel
theorem d_PatternBookModel_openDecimal_252 : decode b_PatternBookModel_openDecimal 252 = .ok (.iconst 3, 1) := by decide +kernel
theorem d_PatternBookModel_openDecimal_253 : decode b_PatternBookModel_openDecimal 253 = .ok (.iadd, 1) := by decide +kernel
theorem d_PatternBookModel_openDecimal_254 : decode b_PatternBookModel_openDecimal 254 = .ok (.goto 6, 3) := by decide +kernel
theorem d_PatternBookModel_openDecimal_257 : decode b_PatternBookModel_openDecimal 257 = .ok (.iload_n 3, 1) := by decide +kernel
theorem d_PatternBookModel_openDecimal_258 : decode b_PatternBookModel_openDecimal 258 = .ok (.iconst 1, 1) := by decide +kernel
theorem d_PatternBookModel_openDecimal_259 : decode b_PatternBookModel_openDecimal 259 = .ok (.iadd, 1) := by decide +kernel
theorem d_PatternBookModel_openDecimal_260 : decode b_PatternBookModel_openDecimal 260 = .ok (.iload_n 1, 1) := by decide +kernel
theorem d_PatternBookModel_openDecimal_261 : decode b_PatternBookModel_openDecimal 261 = .ok (.invokestatic 31, 3) := by decide +kernel
theorem d_PatternBookModel_openDecimal_264 : decode b_PatternBookModel_openDecimal 264 = .ok (.iload 7, 2) := by decide +kernel
theorem d_PatternBookModel_openDecimal_266 : decode b_PatternBookModel_openDecimal 266 = .ok (.ifCond .eq 7, 3) := by decide +kernel
theorem d_PatternBookModel_openDecimal_269 : decode b_PatternBookModel_openDecimal 269 = .ok (.iconst 0, 1) := by decide +kernel
theorem d_PatternBookModel_openDecimal_270 : decode b_PatternBookModel_openDecimal 270 = .ok (.goto 6, 3) := by decide +kernel
theorem d_PatternBookModel_openDecimal_273 : decode b_PatternBookModel_openDecimal 273 = .ok (.iload_n 3, 1) := by decide +kernel
theorem d_PatternBookModel_openDecimal_274 : decode b_PatternBookModel_openDecimal 274 = .ok (.iconst 1, 1) := by decide +kernel
theorem d_PatternBookModel_openDecimal_275 : decode b_PatternBookModel_openDecimal 275 = .ok (.iadd, 1) := by decide +kernel
theorem d_PatternBookModel_openDecimal_276 : decode b_PatternBookModel_openDecimal 276 = .ok (.invokevirtual 107, 3) := by decide +kernel
theorem d_PatternBookModel_openDecimal_279 : decode b_PatternBookModel_openDecimal 279 = .ok (.aload_n 0, 1) := by decide +kernel
theorem d_PatternBookModel_openDecimal_280 : decode b_PatternBookModel_openDecimal 280 = .ok (.iload 8, 2) := by decide +kernel
theorem d_PatternBookModel_openDecimal_282 : decode b_PatternBookModel_openDecimal 282 = .ok (.iload_n 1, 1) := by decide +kernel
theorem d_PatternBookModel_openDecimal_283 : decode b_PatternBookModel_openDecimal 283 = .ok (.invokestatic 98, 3) := by decide +kernel
theorem d_PatternBookModel_openDecimal_286 : decode b_PatternBookModel_openDecimal 286 = .ok (.iadd, 1) := by decide +kernel
theorem d_PatternBookModel_openDecimal_287 : decode b_PatternBookModel_openDecimal 287 = .ok (.putfield 79, 3) := by decide +kernel
theorem d_PatternBookModel_openDecimal_290 : decode b_PatternBookModel_openDecimal 290 = .ok (.return_, 1) := by decide +kernel
theorem d_PatternBookModel_open_0 : decode b_PatternBookModel_open 0 = .ok (.aload_n 0, 1) := by decide +kernel
theorem d_PatternBookModel_open_1 : decode b_PatternBookModel_open 1 = .ok (.iload_n 1, 1) := by decide +kernel
theorem d_PatternBookModel_open_2 : decode b_PatternBookModel_open 2 = .ok (.invokevirtual 69, 3) := by decide +kernel
theorem d_PatternBookModel_open_5 : decode b_PatternBookModel_open 5 = .ok (.aload_n 0, 1) := by decide +kernel
theorem d_PatternBookModel_open_6 : decode b_PatternBookModel_open 6 = .ok (.aload_n 0, 1) := by decide +kernel
theorem d_PatternBookModel_open_7 : decode b_PatternBookModel_open 7 = .ok (.iload_n 1, 1) := by decide +kernel
theorem d_PatternBookModel_open_8 : decode b_PatternBookModel_open 8 = .ok (.invokestatic 66, 3) := by decide +kernel
theorem d_PatternBookModel_open_11 : decode b_PatternBookModel_open 11 = .ok (.iconst 1, 1) := by decide +kernel
theorem d_PatternBookModel_open_12 : decode b_PatternBookModel_open 12 = .ok (.isub, 1) := by decide +kernel
theorem d_PatternBookModel_open_13 : decode b_PatternBookModel_open 13 = .ok (.invokevirtual 51, 3) := by decide +kernel
theorem d_PatternBookModel_open_16 : decode b_PatternBookModel_open 16 = .ok (.putfield 73, 3) := by decide +kernel
theorem d_PatternBookModel_open_19 : decode b_PatternBookModel_open 19 = .ok (.aload_n 0, 1) := by decide +kernel
theorem d_PatternBookModel_open_20 : decode b_PatternBookModel_open 20 = .ok (.iconst 0, 1) := by decide +kernel
theorem d_PatternBookModel_open_21 : decode b_PatternBookModel_open 21 = .ok (.putfield 76, 3) := by decide +kernel
theorem d_PatternBookModel_open_24 : decode b_PatternBookModel_open 24 = .ok (.aload_n 0, 1) := by decide +kernel
theorem d_PatternBookModel_open_25 : decode b_PatternBookModel_open 25 = .ok (.iconst 0, 1) := by decide +kernel
theorem d_PatternBookModel_open_26 : decode b_PatternBookModel_open 26 = .ok (.putfield 79, 3) := by decide +kernel
theorem d_PatternBookModel_open_29 : decode b_PatternBookModel_open 29 = .ok (.iload_n 1, 1) := by decide +kernel
theorem d_PatternBookModel_open_30 : decode b_PatternBookModel_open 30 = .ok (.iconst 4, 1) := by decide +kernel
theorem d_PatternBookModel_open_31 : decode b_PatternBookModel_open 31 = .ok (.if_icmp .ge 11, 3) := by decide +kernel
theorem d_PatternBookModel_open_34 : decode b_PatternBookModel_open 34 = .ok (.aload_n 0, 1) := by decide +kernel
theorem d_PatternBookModel_open_35 : decode b_PatternBookModel_open 35 = .ok (.iload_n 1, 1) := by decide +kernel
theorem d_PatternBookModel_open_36 : decode b_PatternBookModel_open 36 = .ok (.invokevirtual 82, 3) := by decide +kernel
theorem d_PatternBookModel_open_39 : decode b_PatternBookModel_open 39 = .ok (.goto 8, 3) := by decide +kernel
theorem d_PatternBookModel_open_42 : decode b_PatternBookModel_open 42 = .ok (.aload_n 0, 1) := by decide +kernel
theorem d_PatternBookModel_open_43 : decode b_PatternBookModel_open 43 = .ok (.iload_n 1, 1) := by decide +kernel
theorem d_PatternBookModel_open_44 : decode b_PatternBookModel_open 44 = .ok (.invokevirtual 85, 3) := by decide +kernel
theorem d_PatternBookModel_open_47 : decode b_PatternBookModel_open 47 = .ok (.return_, 1) := by decide +kernel
theorem d_PatternBookModel_fits_0 : decode b_PatternBookModel_fits 0 = .ok (.iload_n 1, 1) := by decide +kernel
theorem d_PatternBookModel_fits_1 : decode b_PatternBookModel_fits 1 = .ok (.invokestatic 31, 3) := by decide +kernel
theorem d_PatternBookModel_fits_4 : decode b_PatternBookModel_fits 4 = .ok (.istore_n 2, 1) := by decide +kernel
theorem d_PatternBookModel_fits_5 : decode b_PatternBookModel_fits 5 = .ok (.aload_n 0, 1) := by decide +kernel
theorem d_PatternBookModel_fits_6 : decode b_PatternBookModel_fits 6 = .ok (.getfield 76, 3) := by decide +kernel
theorem d_PatternBookModel_fits_9 : decode b_PatternBookModel_fits 9 = .ok (.iconst 1, 1) := by decide +kernel
theorem d_PatternBookModel_fits_10 : decode b_PatternBookModel_fits 10 = .ok (.if_icmp .ne 5, 3) := by decide +kernel
theorem d_PatternBookModel_fits_13 : decode b_PatternBookModel_fits 13 = .ok (.iconst 1, 1) := by decide +kernel
theorem d_PatternBookModel_fits_14 : decode b_PatternBookModel_fits 14 = .ok (.ireturn, 1) := by decide +kernel
theorem d_PatternBookModel_fits_15 : decode b_PatternBookModel_fits 15 = .ok (.aload_n 0, 1) := by decide +kernel
theorem d_PatternBookModel_fits_16 : decode b_PatternBookModel_fits 16 = .ok (.getfield 76, 3) := by decide +kernel
theorem d_PatternBookModel_fits_19 : decode b_PatternBookModel_fits 19 = .ok (.ifCond .ne 93, 3) := by decide +kernel
theorem d_PatternBookModel_fits_22 : decode b_PatternBookModel_fits 22 = .ok (.aload_n 0, 1) := by decide +kernel
theorem d_PatternBookModel_fits_23 : decode b_PatternBookModel_fits 23 = .ok (.iconst 1, 1) := by decide +kernel
theorem d_PatternBookModel_fits_24 : decode b_PatternBookModel_fits 24 = .ok (.iload_n 1, 1) := by decide +kernel
theorem d_PatternBookModel_fits_25 : decode b_PatternBookModel_fits 25 = .ok (.iconst 4, 1) := by decide +kernel
theorem d_PatternBookModel_fits_26 : decode b_PatternBookModel_fits 26 = .ok (.if_icmp .ge 7, 3) := by decide +kernel
theorem d_PatternBookModel_fits_29 : decode b_PatternBookModel_fits 29 = .ok (.iconst 2, 1) := by decide +kernel
theorem d_PatternBookModel_fits_30 : decode b_PatternBookModel_fits 30 = .ok (.goto 5, 3) := by decide +kernel
theorem d_PatternBookModel_fits_33 : decode b_PatternBookModel_fits 33 = .ok (.bipush 10, 2) := by decide +kernel
theorem d_PatternBookModel_fits_35 : decode b_PatternBookModel_fits 35 = .ok (.iload_n 2, 1) := by decide +kernel
theorem d_PatternBookModel_fits_36 : decode b_PatternBookModel_fits 36 = .ok (.invokevirtual 111, 3) := by decide +kernel
theorem d_PatternBookModel_fits_39 : decode b_PatternBookModel_fits 39 = .ok (.aload_n 0, 1) := by decide +kernel
theorem d_PatternBookModel_fits_40 : decode b_PatternBookModel_fits 40 = .ok (.iconst 0, 1) := by decide +kernel
theorem d_PatternBookModel_fits_41 : decode b_PatternBookModel_fits 41 = .ok (.iconst 1, 1) := by decide +kernel
theorem d_PatternBookModel_fits_42 : decode b_PatternBookModel_fits 42 = .ok (.invokevirtual 114, 3) := by decide +kernel
theorem d_PatternBookModel_fits_45 : decode b_PatternBookModel_fits 45 = .ok (.ifCond .eq 25, 3) := by decide +kernel
theorem d_PatternBookModel_fits_48 : decode b_PatternBookModel_fits 48 = .ok (.aload_n 0, 1) := by decide +kernel
theorem d_PatternBookModel_fits_49 : decode b_PatternBookModel_fits 49 = .ok (.getfield 79, 3) := by decide +kernel
theorem d_PatternBookModel_fits_52 : decode b_PatternBookModel_fits 52 = .ok (.iload_n 1, 1) := by decide +kernel
theorem d_PatternBookModel_fits_53 : decode b_PatternBookModel_fits 53 = .ok (.invokestatic 98, 3) := by decide +kernel
theorem d_PatternBookModel_fits_56 : decode b_PatternBookModel_fits 56 = .ok (.if_icmp .lt 14, 3) := by decide +kernel
theorem d_PatternBookModel_fits_59 : decode b_PatternBookModel_fits 59 = .ok (.aload_n 0, 1) := by decide +kernel
theorem d_PatternBookModel_fits_60 : decode b_PatternBookModel_fits 60 = .ok (.getfield 79, 3) := by decide +kernel
theorem d_PatternBookModel_fits_63 : decode b_PatternBookModel_fits 63 = .ok (.iload_n 1, 1) := by decide +kernel
theorem d_PatternBookModel_fits_64 : decode b_PatternBookModel_fits 64 = .ok (.invokestatic 118, 3) := by decide +kernel
theorem d_PatternBookModel_fits_67 : decode b_PatternBookModel_fits 67 = .ok (.if_icmp .le 5, 3) := by decide +kernel
theorem d_PatternBookModel_fits_70 : decode b_PatternBookModel_fits 70 = .ok (.iconst 0, 1) := by decide +kernel
theorem d_PatternBookModel_fits_71 : decode b_PatternBookModel_fits 71 = .ok (.ireturn, 1) := by decide +kernel
theorem d_PatternBookModel_fits_72 : decode b_PatternBookModel_fits 72 = .ok (.aload_n 0, 1) := by decide +kernel
theorem d_PatternBookModel_fits_73 : decode b_PatternBookModel_fits 73 = .ok (.iconst 1, 1) := by decide +kernel
theorem d_PatternBookModel_fits_74 : decode b_PatternBookModel_fits 74 = .ok (.iconst 2, 1) := by decide +kernel
theorem d_PatternBookModel_fits_75 : decode b_PatternBookModel_fits 75 = .ok (.iload_n 2, 1) := by decide +kernel
theorem d_PatternBookModel_fits_76 : decode b_PatternBookModel_fits 76 = .ok (.iconst 1, 1) := by decide +kernel
theorem d_PatternBookModel_fits_77 : decode b_PatternBookModel_fits 77 = .ok (.isub, 1) := by decide +kernel
theorem d_PatternBookModel_fits_78 : decode b_PatternBookModel_fits 78 = .ok (.invokevirtual 111, 3) := by decide +kernel
theorem d_PatternBookModel_fits_81 : decode b_PatternBookModel_fits 81 = .ok (.iload_n 1, 1) := by decide +kernel
theorem d_PatternBookModel_fits_82 : decode b_PatternBookModel_fits 82 = .ok (.iconst 3, 1) := by decide +kernel
theorem d_PatternBookModel_fits_83 : decode b_PatternBookModel_fits 83 = .ok (.if_icmp .gt 23, 3) := by decide +kernel
theorem d_PatternBookModel_fits_86 : decode b_PatternBookModel_fits 86 = .ok (.aload_n 0, 1) := by decide +kernel
theorem d_PatternBookModel_fits_87 : decode b_PatternBookModel_fits 87 = .ok (.getfield 79, 3) := by decide +kernel
theorem d_PatternBookModel_fits_90 : decode b_PatternBookModel_fits 90 = .ok (.iload_n 1, 1) := by decide +kernel
theorem d_PatternBookModel_fits_91 : decode b_PatternBookModel_fits 91 = .ok (.invokestatic 98, 3) := by decide +kernel
theorem d_PatternBookModel_fits_94 : decode b_PatternBookModel_fits 94 = .ok (.if_icmp .eq 12, 3) := by decide +kernel
theorem d_PatternBookModel_fits_97 : decode b_PatternBookModel_fits 97 = .ok (.aload_n 0, 1) := by decide +kernel
theorem d_PatternBookModel_fits_98 : decode b_PatternBookModel_fits 98 = .ok (.iconst 0, 1) := by decide +kernel
theorem d_PatternBookModel_fits_99 : decode b_PatternBookModel_fits 99 = .ok (.iconst 1, 1) := by decide +kernel
theorem d_PatternBookModel_fits_100 : decode b_PatternBookModel_fits 100 = .ok (.invokevirtual 114, 3) := by decide +kernel
theorem d_PatternBookModel_fits_103 : decode b_PatternBookModel_fits 103 = .ok (.ifCond .ne 7, 3) := by decide +kernel
theorem d_PatternBookModel_fits_106 : decode b_PatternBookModel_fits 106 = .ok (.iconst 1, 1) := by decide +kernel
theorem d_PatternBookModel_fits_107 : decode b_PatternBookModel_fits 107 = .ok (.goto 4, 3) := by decide +kernel
theorem d_PatternBookModel_fits_110 : decode b_PatternBookModel_fits 110 = .ok (.iconst 0, 1) := by decide +kernel
theorem d_PatternBookModel_fits_111 : decode b_PatternBookModel_fits 111 = .ok (.ireturn, 1) := by decide +kernel
theorem d_PatternBookModel_fits_112 : decode b_PatternBookModel_fits 112 = .ok (.aload_n 0, 1) := by decide +kernel
theorem d_PatternBookModel_fits_113 : decode b_PatternBookModel_fits 113 = .ok (.iconst 1, 1) := by decide +kernel
theorem d_PatternBookModel_fits_114 : decode b_PatternBookModel_fits 114 = .ok (.iload_n 1, 1) := by decide +kernel
theorem d_PatternBookModel_fits_115 : decode b_PatternBookModel_fits 115 = .ok (.iconst 4, 1) := by decide +kernel
theorem d_PatternBookModel_fits_116 : decode b_PatternBookModel_fits 116 = .ok (.if_icmp .ge 7, 3) := by decide +kernel
theorem d_PatternBookModel_fits_119 : decode b_PatternBookModel_fits 119 = .ok (.iconst 2, 1) := by decide +kernel
theorem d_PatternBookModel_fits_120 : decode b_PatternBookModel_fits 120 = .ok (.goto 5, 3) := by decide +kernel
theorem d_PatternBookModel_fits_123 : decode b_PatternBookModel_fits 123 = .ok (.bipush 10, 2) := by decide +kernel
theorem d_PatternBookModel_fits_125 : decode b_PatternBookModel_fits 125 = .ok (.iload_n 1, 1) := by decide +kernel
theorem d_PatternBookModel_fits_126 : decode b_PatternBookModel_fits 126 = .ok (.iconst 4, 1) := by decide +kernel
theorem d_PatternBookModel_fits_127 : decode b_PatternBookModel_fits 127 = .ok (.if_icmp .ge 9, 3) := by decide +kernel
theorem d_PatternBookModel_fits_130 : decode b_PatternBookModel_fits 130 = .ok (.iload_n 2, 1) := by decide +kernel
theorem d_PatternBookModel_fits_131 : decode b_PatternBookModel_fits 131 = .ok (.iconst 2, 1) := by decide +kernel
theorem d_PatternBookModel_fits_132 : decode b_PatternBookModel_fits 132 = .ok (.isub, 1) := by decide +kernel
theorem d_PatternBookModel_fits_133 : decode b_PatternBookModel_fits 133 = .ok (.goto 6, 3) := by decide +kernel
theorem d_PatternBookModel_fits_136 : decode b_PatternBookModel_fits 136 = .ok (.iload_n 2, 1) := by decide +kernel
theorem d_PatternBookModel_fits_137 : decode b_PatternBookModel_fits 137 = .ok (.iconst 1, 1) := by decide +kernel
theorem d_PatternBookModel_fits_138 : decode b_PatternBookModel_fits 138 = .ok (.isub, 1) := by decide +kernel
theorem d_PatternBookModel_fits_139 : decode b_PatternBookModel_fits 139 = .ok (.invokevirtual 111, 3) := by decide +kernel
theorem d_PatternBookModel_fits_142 : decode b_PatternBookModel_fits 142 = .ok (.aload_n 0, 1) := by decide +kernel
theorem d_PatternBookModel_fits_143 : decode b_PatternBookModel_fits 143 = .ok (.iconst 0, 1) := by decide +kernel
theorem d_PatternBookModel_fits_144 : decode b_PatternBookModel_fits 144 = .ok (.iconst 1, 1) := by decide +kernel
theorem d_PatternBookModel_fits_145 : decode b_PatternBookModel_fits 145 = .ok (.invokevirtual 114, 3) := by decide +kernel
theorem d_PatternBookModel_fits_148 : decode b_PatternBookModel_fits 148 = .ok (.ifCond .eq 28, 3) := by decide +kernel
theorem d_PatternBookModel_fits_151 : decode b_PatternBookModel_fits 151 = .ok (.iload_n 1, 1) := by decide +kernel
theorem d_PatternBookModel_fits_152 : decode b_PatternBookModel_fits 152 = .ok (.iconst 4, 1) := by decide +kernel
theorem d_PatternBookModel_fits_153 : decode b_PatternBookModel_fits 153 = .ok (.if_icmp .ge 19, 3) := by decide +kernel
theorem d_PatternBookModel_fits_156 : decode b_PatternBookModel_fits 156 = .ok (.aload_n 0, 1) := by decide +kernel
theorem d_PatternBookModel_fits_157 : decode b_PatternBookModel_fits 157 = .ok (.getfield 76, 3) := by decide +kernel
theorem d_PatternBookModel_fits_160 : decode b_PatternBookModel_fits 160 = .ok (.iconst 3, 1) := by decide +kernel
theorem d_PatternBookModel_fits_161 : decode b_PatternBookModel_fits 161 = .ok (.if_icmp .ne 11, 3) := by decide +kernel
theorem d_PatternBookModel_fits_164 : decode b_PatternBookModel_fits 164 = .ok (.aload_n 0, 1) := by decide +kernel
theorem d_PatternBookModel_fits_165 : decode b_PatternBookModel_fits 165 = .ok (.iconst 0, 1) := by decide +kernel
theorem d_PatternBookModel_fits_166 : decode b_PatternBookModel_fits 166 = .ok (.invokevirtual 94, 3) := by decide +kernel
theorem d_PatternBookModel_fits_169 : decode b_PatternBookModel_fits 169 = .ok (.ifCond .ne 7, 3) := by decide +kernel
theorem d_PatternBookModel_fits_172 : decode b_PatternBookModel_fits 172 = .ok (.iconst 1, 1) := by decide +kernel
theorem d_PatternBookModel_fits_173 : decode b_PatternBookModel_fits 173 = .ok (.goto 4, 3) := by decide +kernel
theorem d_PatternBookModel_fits_176 : decode b_PatternBookModel_fits 176 = .ok (.iconst 0, 1) := by decide +kernel
theorem d_PatternBookModel_fits_177 : decode b_PatternBookModel_fits 177 = .ok (.ireturn, 1) := by decide +kernel
theorem d_PatternBookModel_closeBinary_0 : decode b_PatternBookModel_closeBinary 0 = .ok (.iload_n 1, 1) := by decide +kernel
theorem d_PatternBookModel_closeBinary_1 : decode b_PatternBookModel_closeBinary 1 = .ok (.invokestatic 31, 3) := by decide +kernel
theorem d_PatternBookModel_closeBinary_4 : decode b_PatternBookModel_closeBinary 4 = .ok (.istore_n 2, 1) := by decide +kernel
theorem d_PatternBookModel_closeBinary_5 : decode b_PatternBookModel_closeBinary 5 = .ok (.iload_n 1, 1) := by decide +kernel
theorem d_PatternBookModel_closeBinary_6 : decode b_PatternBookModel_closeBinary 6 = .ok (.invokestatic 66, 3) := by decide +kernel
theorem d_PatternBookModel_closeBinary_9 : decode b_PatternBookModel_closeBinary 9 = .ok (.iload_n 2, 1) := by decide +kernel
theorem d_PatternBookModel_closeBinary_10 : decode b_PatternBookModel_closeBinary 10 = .ok (.isub, 1) := by decide +kernel
theorem d_PatternBookModel_closeBinary_11 : decode b_PatternBookModel_closeBinary 11 = .ok (.istore_n 3, 1) := by decide +kernel
theorem d_PatternBookModel_closeBinary_12 : decode b_PatternBookModel_closeBinary 12 = .ok (.aload_n 0, 1) := by decide +kernel
theorem d_PatternBookModel_closeBinary_13 : decode b_PatternBookModel_closeBinary 13 = .ok (.getfield 76, 3) := by decide +kernel
theorem d_PatternBookModel_closeBinary_16 : decode b_PatternBookModel_closeBinary 16 = .ok (.ifCond .eq 54, 3) := by decide +kernel
theorem d_PatternBookModel_closeBinary_19 : decode b_PatternBookModel_closeBinary 19 = .ok (.aload_n 0, 1) := by decide +kernel
theorem d_PatternBookModel_closeBinary_20 : decode b_PatternBookModel_closeBinary 20 = .ok (.iconst 1, 1) := by decide +kernel
theorem d_PatternBookModel_closeBinary_21 : decode b_PatternBookModel_closeBinary 21 = .ok (.iload_n 3, 1) := by decide +kernel
theorem d_PatternBookModel_closeBinary_22 : decode b_PatternBookModel_closeBinary 22 = .ok (.ishl, 1) := by decide +kernel
theorem d_PatternBookModel_closeBinary_23 : decode b_PatternBookModel_closeBinary 23 = .ok (.iconst 1, 1) := by decide +kernel
theorem d_PatternBookModel_closeBinary_24 : decode b_PatternBookModel_closeBinary 24 = .ok (.isub, 1) := by decide +kernel
theorem d_PatternBookModel_closeBinary_25 : decode b_PatternBookModel_closeBinary 25 = .ok (.iload_n 2, 1) := by decide +kernel
theorem d_PatternBookModel_closeBinary_26 : decode b_PatternBookModel_closeBinary 26 = .ok (.iconst 1, 1) := by decide +kernel
theorem d_PatternBookModel_closeBinary_27 : decode b_PatternBookModel_closeBinary 27 = .ok (.isub, 1) := by decide +kernel
theorem d_PatternBookModel_closeBinary_28 : decode b_PatternBookModel_closeBinary 28 = .ok (.iload_n 3, 1) := by decide +kernel
theorem d_PatternBookModel_closeBinary_29 : decode b_PatternBookModel_closeBinary 29 = .ok (.invokevirtual 127, 3) := by decide +kernel
theorem d_PatternBookModel_closeBinary_32 : decode b_PatternBookModel_closeBinary 32 = .ok (.aload_n 0, 1) := by decide +kernel
theorem d_PatternBookModel_closeBinary_33 : decode b_PatternBookModel_closeBinary 33 = .ok (.getfield 76, 3) := by decide +kernel
theorem d_PatternBookModel_closeBinary_36 : decode b_PatternBookModel_closeBinary 36 = .ok (.iconst 1, 1) := by decide +kernel
theorem d_PatternBookModel_closeBinary_37 : decode b_PatternBookModel_closeBinary 37 = .ok (.if_icmp .ne 4, 3) := by decide +kernel
theorem d_PatternBookModel_closeBinary_40 : decode b_PatternBookModel_closeBinary 40 = .ok (.return_, 1) := by decide +kernel
theorem d_PatternBookModel_closeBinary_41 : decode b_PatternBookModel_closeBinary 41 = .ok (.aload_n 0, 1) := by decide +kernel
theorem d_PatternBookModel_closeBinary_42 : decode b_PatternBookModel_closeBinary 42 = .ok (.iload_n 2, 1) := by decide +kernel
theorem d_PatternBookModel_closeBinary_43 : decode b_PatternBookModel_closeBinary 43 = .ok (.iconst 2, 1) := by decide +kernel
theorem d_PatternBookModel_closeBinary_44 : decode b_PatternBookModel_closeBinary 44 = .ok (.isub, 1) := by decide +kernel
theorem d_PatternBookModel_closeBinary_45 : decode b_PatternBookModel_closeBinary 45 = .ok (.aload_n 0, 1) := by decide +kernel
theorem d_PatternBookModel_closeBinary_46 : decode b_PatternBookModel_closeBinary 46 = .ok (.getfield 76, 3) := by decide +kernel
theorem d_PatternBookModel_closeBinary_49 : decode b_PatternBookModel_closeBinary 49 = .ok (.iconst 2, 1) := by decide +kernel
theorem d_PatternBookModel_closeBinary_50 : decode b_PatternBookModel_closeBinary 50 = .ok (.if_icmp .ne 7, 3) := by decide +kernel
theorem d_PatternBookModel_closeBinary_53 : decode b_PatternBookModel_closeBinary 53 = .ok (.iconst 1, 1) := by decide +kernel
theorem d_PatternBookModel_closeBinary_54 : decode b_PatternBookModel_closeBinary 54 = .ok (.goto 4, 3) := by decide +kernel
theorem d_PatternBookModel_closeBinary_57 : decode b_PatternBookModel_closeBinary 57 = .ok (.iconst 0, 1) := by decide +kernel
theorem d_PatternBookModel_closeBinary_58 : decode b_PatternBookModel_closeBinary 58 = .ok (.invokevirtual 54, 3) := by decide +kernel
theorem d_PatternBookModel_closeBinary_61 : decode b_PatternBookModel_closeBinary 61 = .ok (.aload_n 0, 1) := by decide +kernel
theorem d_PatternBookModel_closeBinary_62 : decode b_PatternBookModel_closeBinary 62 = .ok (.iconst 0, 1) := by decide +kernel
theorem d_PatternBookModel_closeBinary_63 : decode b_PatternBookModel_closeBinary 63 = .ok (.iload_n 2, 1) := by decide +kernel
theorem d_PatternBookModel_closeBinary_64 : decode b_PatternBookModel_closeBinary 64 = .ok (.iconst 2, 1) := by decide +kernel
theorem d_PatternBookModel_closeBinary_65 : decode b_PatternBookModel_closeBinary 65 = .ok (.isub, 1) := by decide +kernel
theorem d_PatternBookModel_closeBinary_66 : decode b_PatternBookModel_closeBinary 66 = .ok (.invokevirtual 130, 3) := by decide +kernel
theorem d_PatternBookModel_closeBinary_69 : decode b_PatternBookModel_closeBinary 69 = .ok (.return_, 1) := by decide +kernel
theorem d_PatternBookModel_closeBinary_70 : decode b_PatternBookModel_closeBinary 70 = .ok (.aload_n 0, 1) := by decide +kernel
