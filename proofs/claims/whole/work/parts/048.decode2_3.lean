theorem d_PatternBookModel_closeBinary_71 : decode b_PatternBookModel_closeBinary 71 = .ok (.aload_n 0, 1) := by decide +kernel
theorem d_PatternBookModel_closeBinary_72 : decode b_PatternBookModel_closeBinary 72 = .ok (.iconst 0, 1) := by decide +kernel
theorem d_PatternBookModel_closeBinary_73 : decode b_PatternBookModel_closeBinary 73 = .ok (.iload_n 2, 1) := by decide +kernel
theorem d_PatternBookModel_closeBinary_74 : decode b_PatternBookModel_closeBinary 74 = .ok (.iconst 1, 1) := by decide +kernel
theorem d_PatternBookModel_closeBinary_75 : decode b_PatternBookModel_closeBinary 75 = .ok (.isub, 1) := by decide +kernel
theorem d_PatternBookModel_closeBinary_76 : decode b_PatternBookModel_closeBinary 76 = .ok (.invokevirtual 58, 3) := by decide +kernel
theorem d_PatternBookModel_closeBinary_79 : decode b_PatternBookModel_closeBinary 79 = .ok (.iconst 1, 1) := by decide +kernel
theorem d_PatternBookModel_closeBinary_80 : decode b_PatternBookModel_closeBinary 80 = .ok (.if_icmp .ne 17, 3) := by decide +kernel
theorem d_PatternBookModel_closeBinary_83 : decode b_PatternBookModel_closeBinary 83 = .ok (.aload_n 0, 1) := by decide +kernel
theorem d_PatternBookModel_closeBinary_84 : decode b_PatternBookModel_closeBinary 84 = .ok (.getfield 79, 3) := by decide +kernel
theorem d_PatternBookModel_closeBinary_87 : decode b_PatternBookModel_closeBinary 87 = .ok (.iload_n 1, 1) := by decide +kernel
theorem d_PatternBookModel_closeBinary_88 : decode b_PatternBookModel_closeBinary 88 = .ok (.invokestatic 98, 3) := by decide +kernel
theorem d_PatternBookModel_closeBinary_91 : decode b_PatternBookModel_closeBinary 91 = .ok (.isub, 1) := by decide +kernel
theorem d_PatternBookModel_closeBinary_92 : decode b_PatternBookModel_closeBinary 92 = .ok (.iconst 1, 1) := by decide +kernel
theorem d_PatternBookModel_closeBinary_93 : decode b_PatternBookModel_closeBinary 93 = .ok (.iadd, 1) := by decide +kernel
theorem d_PatternBookModel_closeBinary_94 : decode b_PatternBookModel_closeBinary 94 = .ok (.goto 4, 3) := by decide +kernel
theorem d_PatternBookModel_closeBinary_97 : decode b_PatternBookModel_closeBinary 97 = .ok (.iconst 0, 1) := by decide +kernel
theorem d_PatternBookModel_closeBinary_98 : decode b_PatternBookModel_closeBinary 98 = .ok (.iload_n 2, 1) := by decide +kernel
theorem d_PatternBookModel_closeBinary_99 : decode b_PatternBookModel_closeBinary 99 = .ok (.iconst 1, 1) := by decide +kernel
theorem d_PatternBookModel_closeBinary_100 : decode b_PatternBookModel_closeBinary 100 = .ok (.isub, 1) := by decide +kernel
theorem d_PatternBookModel_closeBinary_101 : decode b_PatternBookModel_closeBinary 101 = .ok (.iload_n 3, 1) := by decide +kernel
theorem d_PatternBookModel_closeBinary_102 : decode b_PatternBookModel_closeBinary 102 = .ok (.invokevirtual 127, 3) := by decide +kernel
theorem d_PatternBookModel_closeBinary_105 : decode b_PatternBookModel_closeBinary 105 = .ok (.aload_n 0, 1) := by decide +kernel
theorem d_PatternBookModel_closeBinary_106 : decode b_PatternBookModel_closeBinary 106 = .ok (.iconst 0, 1) := by decide +kernel
theorem d_PatternBookModel_closeBinary_107 : decode b_PatternBookModel_closeBinary 107 = .ok (.iload_n 2, 1) := by decide +kernel
theorem d_PatternBookModel_closeBinary_108 : decode b_PatternBookModel_closeBinary 108 = .ok (.iconst 1, 1) := by decide +kernel
theorem d_PatternBookModel_closeBinary_109 : decode b_PatternBookModel_closeBinary 109 = .ok (.isub, 1) := by decide +kernel
theorem d_PatternBookModel_closeBinary_110 : decode b_PatternBookModel_closeBinary 110 = .ok (.invokevirtual 130, 3) := by decide +kernel
theorem d_PatternBookModel_closeBinary_113 : decode b_PatternBookModel_closeBinary 113 = .ok (.return_, 1) := by decide +kernel
theorem d_PatternBookModel_layDigits_0 : decode b_PatternBookModel_layDigits 0 = .ok (.iconst 0, 1) := by decide +kernel
theorem d_PatternBookModel_layDigits_1 : decode b_PatternBookModel_layDigits 1 = .ok (.istore_n 2, 1) := by decide +kernel
theorem d_PatternBookModel_layDigits_2 : decode b_PatternBookModel_layDigits 2 = .ok (.iload_n 2, 1) := by decide +kernel
theorem d_PatternBookModel_layDigits_3 : decode b_PatternBookModel_layDigits 3 = .ok (.iconst 4, 1) := by decide +kernel
theorem d_PatternBookModel_layDigits_4 : decode b_PatternBookModel_layDigits 4 = .ok (.if_icmp .ge 24, 3) := by decide +kernel
theorem d_PatternBookModel_layDigits_7 : decode b_PatternBookModel_layDigits 7 = .ok (.aload_n 0, 1) := by decide +kernel
theorem d_PatternBookModel_layDigits_8 : decode b_PatternBookModel_layDigits 8 = .ok (.getfield 7, 3) := by decide +kernel
theorem d_PatternBookModel_layDigits_11 : decode b_PatternBookModel_layDigits 11 = .ok (.bipush 8, 2) := by decide +kernel
theorem d_PatternBookModel_layDigits_13 : decode b_PatternBookModel_layDigits 13 = .ok (.iload_n 2, 1) := by decide +kernel
theorem d_PatternBookModel_layDigits_14 : decode b_PatternBookModel_layDigits 14 = .ok (.iadd, 1) := by decide +kernel
theorem d_PatternBookModel_layDigits_15 : decode b_PatternBookModel_layDigits 15 = .ok (.aload_n 0, 1) := by decide +kernel
theorem d_PatternBookModel_layDigits_16 : decode b_PatternBookModel_layDigits 16 = .ok (.getfield 7, 3) := by decide +kernel
theorem d_PatternBookModel_layDigits_19 : decode b_PatternBookModel_layDigits 19 = .ok (.iload_n 2, 1) := by decide +kernel
theorem d_PatternBookModel_layDigits_20 : decode b_PatternBookModel_layDigits 20 = .ok (.laload, 1) := by decide +kernel
theorem d_PatternBookModel_layDigits_21 : decode b_PatternBookModel_layDigits 21 = .ok (.lastore, 1) := by decide +kernel
theorem d_PatternBookModel_layDigits_22 : decode b_PatternBookModel_layDigits 22 = .ok (.iinc 2 1, 3) := by decide +kernel
theorem d_PatternBookModel_layDigits_25 : decode b_PatternBookModel_layDigits 25 = .ok (.goto (-23), 3) := by decide +kernel
theorem d_PatternBookModel_layDigits_28 : decode b_PatternBookModel_layDigits 28 = .ok (.iconst 0, 1) := by decide +kernel
theorem d_PatternBookModel_layDigits_29 : decode b_PatternBookModel_layDigits 29 = .ok (.istore_n 2, 1) := by decide +kernel
theorem d_PatternBookModel_layDigits_30 : decode b_PatternBookModel_layDigits 30 = .ok (.iload_n 2, 1) := by decide +kernel
theorem d_PatternBookModel_layDigits_31 : decode b_PatternBookModel_layDigits 31 = .ok (.iload_n 1, 1) := by decide +kernel
theorem d_PatternBookModel_layDigits_32 : decode b_PatternBookModel_layDigits 32 = .ok (.invokestatic 101, 3) := by decide +kernel
theorem d_PatternBookModel_layDigits_35 : decode b_PatternBookModel_layDigits 35 = .ok (.bipush 10, 2) := by decide +kernel
theorem d_PatternBookModel_layDigits_37 : decode b_PatternBookModel_layDigits 37 = .ok (.idiv, 1) := by decide +kernel
theorem d_PatternBookModel_layDigits_38 : decode b_PatternBookModel_layDigits 38 = .ok (.if_icmp .ge 32, 3) := by decide +kernel
theorem d_PatternBookModel_layDigits_41 : decode b_PatternBookModel_layDigits 41 = .ok (.aload_n 0, 1) := by decide +kernel
theorem d_PatternBookModel_layDigits_42 : decode b_PatternBookModel_layDigits 42 = .ok (.aload_n 0, 1) := by decide +kernel
theorem d_PatternBookModel_layDigits_43 : decode b_PatternBookModel_layDigits 43 = .ok (.getfield 17, 3) := by decide +kernel
theorem d_PatternBookModel_layDigits_46 : decode b_PatternBookModel_layDigits 46 = .ok (.aload_n 0, 1) := by decide +kernel
theorem d_PatternBookModel_layDigits_47 : decode b_PatternBookModel_layDigits 47 = .ok (.iconst 2, 1) := by decide +kernel
theorem d_PatternBookModel_layDigits_48 : decode b_PatternBookModel_layDigits 48 = .ok (.sipush 1000, 3) := by decide +kernel
theorem d_PatternBookModel_layDigits_51 : decode b_PatternBookModel_layDigits 51 = .ok (.invokevirtual 133, 3) := by decide +kernel
theorem d_PatternBookModel_layDigits_54 : decode b_PatternBookModel_layDigits 54 = .ok (.iaload, 1) := by decide +kernel
theorem d_PatternBookModel_layDigits_55 : decode b_PatternBookModel_layDigits 55 = .ok (.bipush 10, 2) := by decide +kernel
theorem d_PatternBookModel_layDigits_57 : decode b_PatternBookModel_layDigits 57 = .ok (.iload_n 2, 1) := by decide +kernel
theorem d_PatternBookModel_layDigits_58 : decode b_PatternBookModel_layDigits 58 = .ok (.imul, 1) := by decide +kernel
theorem d_PatternBookModel_layDigits_59 : decode b_PatternBookModel_layDigits 59 = .ok (.bipush 10, 2) := by decide +kernel
theorem d_PatternBookModel_layDigits_61 : decode b_PatternBookModel_layDigits 61 = .ok (.invokevirtual 127, 3) := by decide +kernel
theorem d_PatternBookModel_layDigits_64 : decode b_PatternBookModel_layDigits 64 = .ok (.iinc 2 1, 3) := by decide +kernel
theorem d_PatternBookModel_layDigits_67 : decode b_PatternBookModel_layDigits 67 = .ok (.goto (-37), 3) := by decide +kernel
theorem d_PatternBookModel_layDigits_70 : decode b_PatternBookModel_layDigits 70 = .ok (.aload_n 0, 1) := by decide +kernel
theorem d_PatternBookModel_layDigits_71 : decode b_PatternBookModel_layDigits 71 = .ok (.getfield 7, 3) := by decide +kernel
theorem d_PatternBookModel_layDigits_74 : decode b_PatternBookModel_layDigits 74 = .ok (.bipush 8, 2) := by decide +kernel
theorem d_PatternBookModel_layDigits_76 : decode b_PatternBookModel_layDigits 76 = .ok (.laload, 1) := by decide +kernel
theorem d_PatternBookModel_layDigits_77 : decode b_PatternBookModel_layDigits 77 = .ok (.l2i, 1) := by decide +kernel
theorem d_PatternBookModel_layDigits_78 : decode b_PatternBookModel_layDigits 78 = .ok (.ireturn, 1) := by decide +kernel
theorem d_PatternBookModel_closeDecimal_0 : decode b_PatternBookModel_closeDecimal 0 = .ok (.iload_n 1, 1) := by decide +kernel
theorem d_PatternBookModel_closeDecimal_1 : decode b_PatternBookModel_closeDecimal 1 = .ok (.invokestatic 66, 3) := by decide +kernel
theorem d_PatternBookModel_closeDecimal_4 : decode b_PatternBookModel_closeDecimal 4 = .ok (.istore_n 2, 1) := by decide +kernel
theorem d_PatternBookModel_closeDecimal_5 : decode b_PatternBookModel_closeDecimal 5 = .ok (.iload_n 1, 1) := by decide +kernel
theorem d_PatternBookModel_closeDecimal_6 : decode b_PatternBookModel_closeDecimal 6 = .ok (.invokestatic 101, 3) := by decide +kernel
theorem d_PatternBookModel_closeDecimal_9 : decode b_PatternBookModel_closeDecimal 9 = .ok (.istore_n 3, 1) := by decide +kernel
theorem d_PatternBookModel_closeDecimal_10 : decode b_PatternBookModel_closeDecimal 10 = .ok (.iload_n 2, 1) := by decide +kernel
theorem d_PatternBookModel_closeDecimal_11 : decode b_PatternBookModel_closeDecimal 11 = .ok (.iconst 1, 1) := by decide +kernel
theorem d_PatternBookModel_closeDecimal_12 : decode b_PatternBookModel_closeDecimal 12 = .ok (.isub, 1) := by decide +kernel
theorem d_PatternBookModel_closeDecimal_13 : decode b_PatternBookModel_closeDecimal 13 = .ok (.iload_n 3, 1) := by decide +kernel
theorem d_PatternBookModel_closeDecimal_14 : decode b_PatternBookModel_closeDecimal 14 = .ok (.isub, 1) := by decide +kernel
theorem d_PatternBookModel_closeDecimal_15 : decode b_PatternBookModel_closeDecimal 15 = .ok (.istore 4, 2) := by decide +kernel
theorem d_PatternBookModel_closeDecimal_17 : decode b_PatternBookModel_closeDecimal 17 = .ok (.aload_n 0, 1) := by decide +kernel
theorem d_PatternBookModel_closeDecimal_18 : decode b_PatternBookModel_closeDecimal 18 = .ok (.getfield 76, 3) := by decide +kernel
theorem d_PatternBookModel_closeDecimal_21 : decode b_PatternBookModel_closeDecimal 21 = .ok (.iconst 1, 1) := by decide +kernel
theorem d_PatternBookModel_closeDecimal_22 : decode b_PatternBookModel_closeDecimal 22 = .ok (.if_icmp .ne 15, 3) := by decide +kernel
theorem d_PatternBookModel_closeDecimal_25 : decode b_PatternBookModel_closeDecimal 25 = .ok (.aload_n 0, 1) := by decide +kernel
theorem d_PatternBookModel_closeDecimal_26 : decode b_PatternBookModel_closeDecimal 26 = .ok (.bipush 30, 2) := by decide +kernel
theorem d_PatternBookModel_closeDecimal_28 : decode b_PatternBookModel_closeDecimal 28 = .ok (.iload_n 2, 1) := by decide +kernel
theorem d_PatternBookModel_closeDecimal_29 : decode b_PatternBookModel_closeDecimal 29 = .ok (.bipush 6, 2) := by decide +kernel
theorem d_PatternBookModel_closeDecimal_31 : decode b_PatternBookModel_closeDecimal 31 = .ok (.isub, 1) := by decide +kernel
theorem d_PatternBookModel_closeDecimal_32 : decode b_PatternBookModel_closeDecimal 32 = .ok (.iconst 5, 1) := by decide +kernel
theorem d_PatternBookModel_closeDecimal_33 : decode b_PatternBookModel_closeDecimal 33 = .ok (.invokevirtual 127, 3) := by decide +kernel
theorem d_PatternBookModel_closeDecimal_36 : decode b_PatternBookModel_closeDecimal 36 = .ok (.return_, 1) := by decide +kernel
theorem d_PatternBookModel_closeDecimal_37 : decode b_PatternBookModel_closeDecimal 37 = .ok (.aload_n 0, 1) := by decide +kernel
theorem d_PatternBookModel_closeDecimal_38 : decode b_PatternBookModel_closeDecimal 38 = .ok (.getfield 76, 3) := by decide +kernel
theorem d_PatternBookModel_closeDecimal_41 : decode b_PatternBookModel_closeDecimal 41 = .ok (.ifCond .eq 57, 3) := by decide +kernel
theorem d_PatternBookModel_closeDecimal_44 : decode b_PatternBookModel_closeDecimal 44 = .ok (.aload_n 0, 1) := by decide +kernel
theorem d_PatternBookModel_closeDecimal_45 : decode b_PatternBookModel_closeDecimal 45 = .ok (.bipush 31, 2) := by decide +kernel
theorem d_PatternBookModel_closeDecimal_47 : decode b_PatternBookModel_closeDecimal 47 = .ok (.iload_n 2, 1) := by decide +kernel
theorem d_PatternBookModel_closeDecimal_48 : decode b_PatternBookModel_closeDecimal 48 = .ok (.bipush 6, 2) := by decide +kernel
theorem d_PatternBookModel_closeDecimal_50 : decode b_PatternBookModel_closeDecimal 50 = .ok (.isub, 1) := by decide +kernel
theorem d_PatternBookModel_closeDecimal_51 : decode b_PatternBookModel_closeDecimal 51 = .ok (.iconst 5, 1) := by decide +kernel
theorem d_PatternBookModel_closeDecimal_52 : decode b_PatternBookModel_closeDecimal 52 = .ok (.invokevirtual 127, 3) := by decide +kernel
theorem d_PatternBookModel_closeDecimal_55 : decode b_PatternBookModel_closeDecimal 55 = .ok (.aload_n 0, 1) := by decide +kernel
theorem d_PatternBookModel_closeDecimal_56 : decode b_PatternBookModel_closeDecimal 56 = .ok (.iload_n 2, 1) := by decide +kernel
theorem d_PatternBookModel_closeDecimal_57 : decode b_PatternBookModel_closeDecimal 57 = .ok (.bipush 7, 2) := by decide +kernel
theorem d_PatternBookModel_closeDecimal_59 : decode b_PatternBookModel_closeDecimal 59 = .ok (.isub, 1) := by decide +kernel
theorem d_PatternBookModel_closeDecimal_60 : decode b_PatternBookModel_closeDecimal 60 = .ok (.aload_n 0, 1) := by decide +kernel
theorem d_PatternBookModel_closeDecimal_61 : decode b_PatternBookModel_closeDecimal 61 = .ok (.getfield 76, 3) := by decide +kernel
theorem d_PatternBookModel_closeDecimal_64 : decode b_PatternBookModel_closeDecimal 64 = .ok (.iconst 3, 1) := by decide +kernel
theorem d_PatternBookModel_closeDecimal_65 : decode b_PatternBookModel_closeDecimal 65 = .ok (.if_icmp .ne 7, 3) := by decide +kernel
theorem d_PatternBookModel_closeDecimal_68 : decode b_PatternBookModel_closeDecimal 68 = .ok (.iconst 1, 1) := by decide +kernel
theorem d_PatternBookModel_closeDecimal_69 : decode b_PatternBookModel_closeDecimal 69 = .ok (.goto 4, 3) := by decide +kernel
theorem d_PatternBookModel_closeDecimal_72 : decode b_PatternBookModel_closeDecimal 72 = .ok (.iconst 0, 1) := by decide +kernel
theorem d_PatternBookModel_closeDecimal_73 : decode b_PatternBookModel_closeDecimal 73 = .ok (.invokevirtual 54, 3) := by decide +kernel
theorem d_PatternBookModel_closeDecimal_76 : decode b_PatternBookModel_closeDecimal 76 = .ok (.iload_n 1, 1) := by decide +kernel
theorem d_PatternBookModel_closeDecimal_77 : decode b_PatternBookModel_closeDecimal 77 = .ok (.bipush 6, 2) := by decide +kernel
theorem d_PatternBookModel_closeDecimal_79 : decode b_PatternBookModel_closeDecimal 79 = .ok (.if_icmp .le 12, 3) := by decide +kernel
theorem d_PatternBookModel_closeDecimal_82 : decode b_PatternBookModel_closeDecimal 82 = .ok (.aload_n 0, 1) := by decide +kernel
theorem d_PatternBookModel_closeDecimal_83 : decode b_PatternBookModel_closeDecimal 83 = .ok (.iload_n 1, 1) := by decide +kernel
theorem d_PatternBookModel_closeDecimal_84 : decode b_PatternBookModel_closeDecimal 84 = .ok (.invokevirtual 136, 3) := by decide +kernel
theorem d_PatternBookModel_closeDecimal_87 : decode b_PatternBookModel_closeDecimal 87 = .ok (.pop, 1) := by decide +kernel
theorem d_PatternBookModel_closeDecimal_88 : decode b_PatternBookModel_closeDecimal 88 = .ok (.goto 9, 3) := by decide +kernel
theorem d_PatternBookModel_closeDecimal_91 : decode b_PatternBookModel_closeDecimal 91 = .ok (.aload_n 0, 1) := by decide +kernel
theorem d_PatternBookModel_closeDecimal_92 : decode b_PatternBookModel_closeDecimal 92 = .ok (.iconst 0, 1) := by decide +kernel
theorem d_PatternBookModel_closeDecimal_93 : decode b_PatternBookModel_closeDecimal 93 = .ok (.iload_n 3, 1) := by decide +kernel
theorem d_PatternBookModel_closeDecimal_94 : decode b_PatternBookModel_closeDecimal 94 = .ok (.invokevirtual 130, 3) := by decide +kernel
theorem d_PatternBookModel_closeDecimal_97 : decode b_PatternBookModel_closeDecimal 97 = .ok (.return_, 1) := by decide +kernel
theorem d_PatternBookModel_closeDecimal_98 : decode b_PatternBookModel_closeDecimal 98 = .ok (.aload_n 0, 1) := by decide +kernel
theorem d_PatternBookModel_closeDecimal_99 : decode b_PatternBookModel_closeDecimal 99 = .ok (.getfield 79, 3) := by decide +kernel
theorem d_PatternBookModel_closeDecimal_102 : decode b_PatternBookModel_closeDecimal 102 = .ok (.iload_n 1, 1) := by decide +kernel
theorem d_PatternBookModel_closeDecimal_103 : decode b_PatternBookModel_closeDecimal 103 = .ok (.invokestatic 98, 3) := by decide +kernel
theorem d_PatternBookModel_closeDecimal_106 : decode b_PatternBookModel_closeDecimal 106 = .ok (.isub, 1) := by decide +kernel
theorem d_PatternBookModel_closeDecimal_107 : decode b_PatternBookModel_closeDecimal 107 = .ok (.istore 5, 2) := by decide +kernel
theorem d_PatternBookModel_closeDecimal_109 : decode b_PatternBookModel_closeDecimal 109 = .ok (.iload_n 1, 1) := by decide +kernel
theorem d_PatternBookModel_closeDecimal_110 : decode b_PatternBookModel_closeDecimal 110 = .ok (.bipush 6, 2) := by decide +kernel
theorem d_PatternBookModel_closeDecimal_112 : decode b_PatternBookModel_closeDecimal 112 = .ok (.if_icmp .le 70, 3) := by decide +kernel
theorem d_PatternBookModel_closeDecimal_115 : decode b_PatternBookModel_closeDecimal 115 = .ok (.aload_n 0, 1) := by decide +kernel
theorem d_PatternBookModel_closeDecimal_116 : decode b_PatternBookModel_closeDecimal 116 = .ok (.iload_n 1, 1) := by decide +kernel
theorem d_PatternBookModel_closeDecimal_117 : decode b_PatternBookModel_closeDecimal 117 = .ok (.invokevirtual 136, 3) := by decide +kernel
theorem d_PatternBookModel_closeDecimal_120 : decode b_PatternBookModel_closeDecimal 120 = .ok (.istore 6, 2) := by decide +kernel
theorem d_PatternBookModel_closeDecimal_122 : decode b_PatternBookModel_closeDecimal 122 = .ok (.iload 5, 2) := by decide +kernel
theorem d_PatternBookModel_closeDecimal_124 : decode b_PatternBookModel_closeDecimal 124 = .ok (.iload 4, 2) := by decide +kernel
theorem d_PatternBookModel_closeDecimal_126 : decode b_PatternBookModel_closeDecimal 126 = .ok (.iconst 5, 1) := by decide +kernel
theorem d_PatternBookModel_closeDecimal_127 : decode b_PatternBookModel_closeDecimal 127 = .ok (.isub, 1) := by decide +kernel
theorem d_PatternBookModel_closeDecimal_128 : decode b_PatternBookModel_closeDecimal 128 = .ok (.ishr, 1) := by decide +kernel
theorem d_PatternBookModel_closeDecimal_129 : decode b_PatternBookModel_closeDecimal 129 = .ok (.istore 7, 2) := by decide +kernel
theorem d_PatternBookModel_closeDecimal_131 : decode b_PatternBookModel_closeDecimal 131 = .ok (.aload_n 0, 1) := by decide +kernel
theorem d_PatternBookModel_closeDecimal_132 : decode b_PatternBookModel_closeDecimal 132 = .ok (.iload 5, 2) := by decide +kernel
theorem d_PatternBookModel_closeDecimal_134 : decode b_PatternBookModel_closeDecimal 134 = .ok (.iload_n 3, 1) := by decide +kernel
theorem d_PatternBookModel_closeDecimal_135 : decode b_PatternBookModel_closeDecimal 135 = .ok (.iload 4, 2) := by decide +kernel
theorem d_PatternBookModel_closeDecimal_137 : decode b_PatternBookModel_closeDecimal 137 = .ok (.iconst 5, 1) := by decide +kernel
theorem d_PatternBookModel_closeDecimal_138 : decode b_PatternBookModel_closeDecimal 138 = .ok (.isub, 1) := by decide +kernel
theorem d_PatternBookModel_closeDecimal_139 : decode b_PatternBookModel_closeDecimal 139 = .ok (.invokevirtual 127, 3) := by decide +kernel
theorem d_PatternBookModel_closeDecimal_142 : decode b_PatternBookModel_closeDecimal 142 = .ok (.aload_n 0, 1) := by decide +kernel
theorem d_PatternBookModel_closeDecimal_143 : decode b_PatternBookModel_closeDecimal 143 = .ok (.iload 6, 2) := by decide +kernel
theorem d_PatternBookModel_closeDecimal_145 : decode b_PatternBookModel_closeDecimal 145 = .ok (.bipush 8, 2) := by decide +kernel
theorem d_PatternBookModel_closeDecimal_147 : decode b_PatternBookModel_closeDecimal 147 = .ok (.if_icmp .ge 14, 3) := by decide +kernel
theorem d_PatternBookModel_closeDecimal_150 : decode b_PatternBookModel_closeDecimal 150 = .ok (.bipush 8, 2) := by decide +kernel
theorem d_PatternBookModel_closeDecimal_152 : decode b_PatternBookModel_closeDecimal 152 = .ok (.iload 7, 2) := by decide +kernel
theorem d_PatternBookModel_closeDecimal_154 : decode b_PatternBookModel_closeDecimal 154 = .ok (.imul, 1) := by decide +kernel
theorem d_PatternBookModel_closeDecimal_155 : decode b_PatternBookModel_closeDecimal 155 = .ok (.iload 6, 2) := by decide +kernel
theorem d_PatternBookModel_closeDecimal_157 : decode b_PatternBookModel_closeDecimal 157 = .ok (.iadd, 1) := by decide +kernel
theorem d_PatternBookModel_closeDecimal_158 : decode b_PatternBookModel_closeDecimal 158 = .ok (.goto 15, 3) := by decide +kernel
theorem d_PatternBookModel_closeDecimal_161 : decode b_PatternBookModel_closeDecimal 161 = .ok (.bipush 24, 2) := by decide +kernel
theorem d_PatternBookModel_closeDecimal_163 : decode b_PatternBookModel_closeDecimal 163 = .ok (.iconst 2, 1) := by decide +kernel
theorem d_PatternBookModel_closeDecimal_164 : decode b_PatternBookModel_closeDecimal 164 = .ok (.iload 7, 2) := by decide +kernel
theorem d_PatternBookModel_closeDecimal_166 : decode b_PatternBookModel_closeDecimal 166 = .ok (.imul, 1) := by decide +kernel
theorem d_PatternBookModel_closeDecimal_167 : decode b_PatternBookModel_closeDecimal 167 = .ok (.iadd, 1) := by decide +kernel
theorem d_PatternBookModel_closeDecimal_168 : decode b_PatternBookModel_closeDecimal 168 = .ok (.iload 6, 2) := by decide +kernel
theorem d_PatternBookModel_closeDecimal_170 : decode b_PatternBookModel_closeDecimal 170 = .ok (.iconst 2, 1) := by decide +kernel
theorem d_PatternBookModel_closeDecimal_171 : decode b_PatternBookModel_closeDecimal 171 = .ok (.irem, 1) := by decide +kernel
theorem d_PatternBookModel_closeDecimal_172 : decode b_PatternBookModel_closeDecimal 172 = .ok (.iadd, 1) := by decide +kernel
theorem d_PatternBookModel_closeDecimal_173 : decode b_PatternBookModel_closeDecimal 173 = .ok (.iload_n 2, 1) := by decide +kernel
theorem d_PatternBookModel_closeDecimal_174 : decode b_PatternBookModel_closeDecimal 174 = .ok (.bipush 6, 2) := by decide +kernel
theorem d_PatternBookModel_closeDecimal_176 : decode b_PatternBookModel_closeDecimal 176 = .ok (.isub, 1) := by decide +kernel
theorem d_PatternBookModel_closeDecimal_177 : decode b_PatternBookModel_closeDecimal 177 = .ok (.iconst 5, 1) := by decide +kernel
theorem d_PatternBookModel_closeDecimal_178 : decode b_PatternBookModel_closeDecimal 178 = .ok (.invokevirtual 127, 3) := by decide +kernel
theorem d_PatternBookModel_closeDecimal_181 : decode b_PatternBookModel_closeDecimal 181 = .ok (.return_, 1) := by decide +kernel
theorem d_PatternBookModel_closeDecimal_182 : decode b_PatternBookModel_closeDecimal 182 = .ok (.aload_n 0, 1) := by decide +kernel
theorem d_PatternBookModel_closeDecimal_183 : decode b_PatternBookModel_closeDecimal 183 = .ok (.iconst 0, 1) := by decide +kernel
theorem d_PatternBookModel_closeDecimal_184 : decode b_PatternBookModel_closeDecimal 184 = .ok (.iload_n 3, 1) := by decide +kernel
theorem d_PatternBookModel_closeDecimal_185 : decode b_PatternBookModel_closeDecimal 185 = .ok (.iconst 3, 1) := by decide +kernel
theorem d_PatternBookModel_closeDecimal_186 : decode b_PatternBookModel_closeDecimal 186 = .ok (.iadd, 1) := by decide +kernel
theorem d_PatternBookModel_closeDecimal_187 : decode b_PatternBookModel_closeDecimal 187 = .ok (.invokevirtual 58, 3) := by decide +kernel
theorem d_PatternBookModel_closeDecimal_190 : decode b_PatternBookModel_closeDecimal 190 = .ok (.iconst 1, 1) := by decide +kernel
theorem d_PatternBookModel_closeDecimal_191 : decode b_PatternBookModel_closeDecimal 191 = .ok (.if_icmp .ne 7, 3) := by decide +kernel
theorem d_PatternBookModel_closeDecimal_194 : decode b_PatternBookModel_closeDecimal 194 = .ok (.iconst 1, 1) := by decide +kernel
theorem d_PatternBookModel_closeDecimal_195 : decode b_PatternBookModel_closeDecimal 195 = .ok (.goto 4, 3) := by decide +kernel
theorem d_PatternBookModel_closeDecimal_198 : decode b_PatternBookModel_closeDecimal 198 = .ok (.iconst 0, 1) := by decide +kernel
theorem d_PatternBookModel_closeDecimal_199 : decode b_PatternBookModel_closeDecimal 199 = .ok (.istore 6, 2) := by decide +kernel
theorem d_PatternBookModel_closeDecimal_201 : decode b_PatternBookModel_closeDecimal 201 = .ok (.aload_n 0, 1) := by decide +kernel
theorem d_PatternBookModel_closeDecimal_202 : decode b_PatternBookModel_closeDecimal 202 = .ok (.iload 5, 2) := by decide +kernel
theorem d_PatternBookModel_closeDecimal_204 : decode b_PatternBookModel_closeDecimal 204 = .ok (.iload 6, 2) := by decide +kernel
theorem d_PatternBookModel_closeDecimal_206 : decode b_PatternBookModel_closeDecimal 206 = .ok (.ifCond .eq 9, 3) := by decide +kernel
theorem d_PatternBookModel_closeDecimal_209 : decode b_PatternBookModel_closeDecimal 209 = .ok (.iload_n 3, 1) := by decide +kernel
theorem d_PatternBookModel_closeDecimal_210 : decode b_PatternBookModel_closeDecimal 210 = .ok (.iconst 1, 1) := by decide +kernel
theorem d_PatternBookModel_closeDecimal_211 : decode b_PatternBookModel_closeDecimal 211 = .ok (.iadd, 1) := by decide +kernel
theorem d_PatternBookModel_closeDecimal_212 : decode b_PatternBookModel_closeDecimal 212 = .ok (.goto 6, 3) := by decide +kernel
theorem d_PatternBookModel_closeDecimal_215 : decode b_PatternBookModel_closeDecimal 215 = .ok (.iload_n 3, 1) := by decide +kernel
theorem d_PatternBookModel_closeDecimal_216 : decode b_PatternBookModel_closeDecimal 216 = .ok (.iconst 3, 1) := by decide +kernel
theorem d_PatternBookModel_closeDecimal_217 : decode b_PatternBookModel_closeDecimal 217 = .ok (.iadd, 1) := by decide +kernel
theorem d_PatternBookModel_closeDecimal_218 : decode b_PatternBookModel_closeDecimal 218 = .ok (.iload 4, 2) := by decide +kernel
theorem d_PatternBookModel_closeDecimal_220 : decode b_PatternBookModel_closeDecimal 220 = .ok (.iconst 3, 1) := by decide +kernel
theorem d_PatternBookModel_closeDecimal_221 : decode b_PatternBookModel_closeDecimal 221 = .ok (.isub, 1) := by decide +kernel
theorem d_PatternBookModel_closeDecimal_222 : decode b_PatternBookModel_closeDecimal 222 = .ok (.invokevirtual 127, 3) := by decide +kernel
theorem d_PatternBookModel_closeDecimal_225 : decode b_PatternBookModel_closeDecimal 225 = .ok (.aload_n 0, 1) := by decide +kernel
theorem d_PatternBookModel_closeDecimal_226 : decode b_PatternBookModel_closeDecimal 226 = .ok (.iconst 0, 1) := by decide +kernel
theorem d_PatternBookModel_closeDecimal_227 : decode b_PatternBookModel_closeDecimal 227 = .ok (.iload 6, 2) := by decide +kernel
theorem d_PatternBookModel_closeDecimal_229 : decode b_PatternBookModel_closeDecimal 229 = .ok (.ifCond .eq 9, 3) := by decide +kernel
theorem d_PatternBookModel_closeDecimal_232 : decode b_PatternBookModel_closeDecimal 232 = .ok (.iload_n 3, 1) := by decide +kernel
theorem d_PatternBookModel_closeDecimal_233 : decode b_PatternBookModel_closeDecimal 233 = .ok (.iconst 1, 1) := by decide +kernel
theorem d_PatternBookModel_closeDecimal_234 : decode b_PatternBookModel_closeDecimal 234 = .ok (.iadd, 1) := by decide +kernel
theorem d_PatternBookModel_closeDecimal_235 : decode b_PatternBookModel_closeDecimal 235 = .ok (.goto 6, 3) := by decide +kernel
theorem d_PatternBookModel_closeDecimal_238 : decode b_PatternBookModel_closeDecimal 238 = .ok (.iload_n 3, 1) := by decide +kernel
theorem d_PatternBookModel_closeDecimal_239 : decode b_PatternBookModel_closeDecimal 239 = .ok (.iconst 3, 1) := by decide +kernel
theorem d_PatternBookModel_closeDecimal_240 : decode b_PatternBookModel_closeDecimal 240 = .ok (.iadd, 1) := by decide +kernel
theorem d_PatternBookModel_closeDecimal_241 : decode b_PatternBookModel_closeDecimal 241 = .ok (.invokevirtual 130, 3) := by decide +kernel
theorem d_PatternBookModel_closeDecimal_244 : decode b_PatternBookModel_closeDecimal 244 = .ok (.iload 6, 2) := by decide +kernel
theorem d_PatternBookModel_closeDecimal_246 : decode b_PatternBookModel_closeDecimal 246 = .ok (.ifCond .eq 12, 3) := by decide +kernel
theorem d_PatternBookModel_closeDecimal_249 : decode b_PatternBookModel_closeDecimal 249 = .ok (.aload_n 0, 1) := by decide +kernel
theorem d_PatternBookModel_closeDecimal_250 : decode b_PatternBookModel_closeDecimal 250 = .ok (.iconst 3, 1) := by decide +kernel
theorem d_PatternBookModel_closeDecimal_251 : decode b_PatternBookModel_closeDecimal 251 = .ok (.iload_n 2, 1) := by decide +kernel
theorem d_PatternBookModel_closeDecimal_252 : decode b_PatternBookModel_closeDecimal 252 = .ok (.iconst 3, 1) := by decide +kernel
theorem d_PatternBookModel_closeDecimal_253 : decode b_PatternBookModel_closeDecimal 253 = .ok (.isub, 1) := by decide +kernel
theorem d_PatternBookModel_closeDecimal_254 : decode b_PatternBookModel_closeDecimal 254 = .ok (.iconst 2, 1) := by decide +kernel
theorem d_PatternBookModel_closeDecimal_255 : decode b_PatternBookModel_closeDecimal 255 = .ok (.invokevirtual 127, 3) := by decide +kernel
theorem d_PatternBookModel_closeDecimal_258 : decode b_PatternBookModel_closeDecimal 258 = .ok (.return_, 1) := by decide +kernel
theorem d_PatternBookModel_close_0 : decode b_PatternBookModel_close 0 = .ok (.aload_n 0, 1) := by decide +kernel
theorem d_PatternBookModel_close_1 : decode b_PatternBookModel_close 1 = .ok (.lconst 0, 1) := by decide +kernel
theorem d_PatternBookModel_close_2 : decode b_PatternBookModel_close 2 = .ok (.putfield 48, 3) := by decide +kernel
theorem d_PatternBookModel_close_5 : decode b_PatternBookModel_close 5 = .ok (.aload_n 0, 1) := by decide +kernel
theorem d_PatternBookModel_close_6 : decode b_PatternBookModel_close 6 = .ok (.lconst 0, 1) := by decide +kernel
theorem d_PatternBookModel_close_7 : decode b_PatternBookModel_close 7 = .ok (.putfield 44, 3) := by decide +kernel
theorem d_PatternBookModel_close_10 : decode b_PatternBookModel_close 10 = .ok (.aload_n 0, 1) := by decide +kernel
theorem d_PatternBookModel_close_11 : decode b_PatternBookModel_close 11 = .ok (.iload_n 1, 1) := by decide +kernel
theorem d_PatternBookModel_close_12 : decode b_PatternBookModel_close 12 = .ok (.invokestatic 66, 3) := by decide +kernel
theorem d_PatternBookModel_close_15 : decode b_PatternBookModel_close 15 = .ok (.iconst 1, 1) := by decide +kernel
theorem d_PatternBookModel_close_16 : decode b_PatternBookModel_close 16 = .ok (.isub, 1) := by decide +kernel
theorem d_PatternBookModel_close_17 : decode b_PatternBookModel_close 17 = .ok (.aload_n 0, 1) := by decide +kernel
theorem d_PatternBookModel_close_18 : decode b_PatternBookModel_close 18 = .ok (.getfield 73, 3) := by decide +kernel
theorem d_PatternBookModel_close_21 : decode b_PatternBookModel_close 21 = .ok (.invokevirtual 54, 3) := by decide +kernel
theorem d_PatternBookModel_close_24 : decode b_PatternBookModel_close 24 = .ok (.iload_n 1, 1) := by decide +kernel
theorem d_PatternBookModel_close_25 : decode b_PatternBookModel_close 25 = .ok (.iconst 4, 1) := by decide +kernel
theorem d_PatternBookModel_close_26 : decode b_PatternBookModel_close 26 = .ok (.if_icmp .ge 11, 3) := by decide +kernel
theorem d_PatternBookModel_close_29 : decode b_PatternBookModel_close 29 = .ok (.aload_n 0, 1) := by decide +kernel
theorem d_PatternBookModel_close_30 : decode b_PatternBookModel_close 30 = .ok (.iload_n 1, 1) := by decide +kernel
theorem d_PatternBookModel_close_31 : decode b_PatternBookModel_close 31 = .ok (.invokevirtual 121, 3) := by decide +kernel
theorem d_PatternBookModel_close_34 : decode b_PatternBookModel_close 34 = .ok (.goto 8, 3) := by decide +kernel
theorem d_PatternBookModel_close_37 : decode b_PatternBookModel_close 37 = .ok (.aload_n 0, 1) := by decide +kernel
theorem d_PatternBookModel_close_38 : decode b_PatternBookModel_close 38 = .ok (.iload_n 1, 1) := by decide +kernel
theorem d_PatternBookModel_close_39 : decode b_PatternBookModel_close 39 = .ok (.invokevirtual 124, 3) := by decide +kernel
theorem d_PatternBookModel_close_42 : decode b_PatternBookModel_close 42 = .ok (.return_, 1) := by decide +kernel
theorem d_PatternBookModel_asks_0 : decode b_PatternBookModel_asks 0 = .ok (.aload_n 0, 1) := by decide +kernel
theorem d_PatternBookModel_asks_1 : decode b_PatternBookModel_asks 1 = .ok (.iload_n 1, 1) := by decide +kernel
theorem d_PatternBookModel_asks_2 : decode b_PatternBookModel_asks 2 = .ok (.invokestatic 139, 3) := by decide +kernel
theorem d_PatternBookModel_asks_5 : decode b_PatternBookModel_asks 5 = .ok (.ifCond .eq 7, 3) := by decide +kernel
theorem d_PatternBookModel_asks_8 : decode b_PatternBookModel_asks 8 = .ok (.iconst 0, 1) := by decide +kernel
theorem d_PatternBookModel_asks_9 : decode b_PatternBookModel_asks 9 = .ok (.goto 4, 3) := by decide +kernel
theorem d_PatternBookModel_asks_12 : decode b_PatternBookModel_asks 12 = .ok (.iconst 1, 1) := by decide +kernel
theorem d_PatternBookModel_asks_13 : decode b_PatternBookModel_asks 13 = .ok (.putfield 24, 3) := by decide +kernel
theorem d_PatternBookModel_asks_16 : decode b_PatternBookModel_asks 16 = .ok (.aload_n 0, 1) := by decide +kernel
theorem d_PatternBookModel_asks_17 : decode b_PatternBookModel_asks 17 = .ok (.getfield 24, 3) := by decide +kernel
theorem d_PatternBookModel_asks_20 : decode b_PatternBookModel_asks 20 = .ok (.ifCond .ne 7, 3) := by decide +kernel
theorem d_PatternBookModel_asks_23 : decode b_PatternBookModel_asks 23 = .ok (.iconst 1, 1) := by decide +kernel
theorem d_PatternBookModel_asks_24 : decode b_PatternBookModel_asks 24 = .ok (.goto 4, 3) := by decide +kernel
theorem d_PatternBookModel_asks_27 : decode b_PatternBookModel_asks 27 = .ok (.iconst 0, 1) := by decide +kernel
theorem d_PatternBookModel_asks_28 : decode b_PatternBookModel_asks 28 = .ok (.ireturn, 1) := by decide +kernel
theorem d_PatternBookModel_unpack_0 : decode b_PatternBookModel_unpack 0 = .ok (.aload_n 0, 1) := by decide +kernel
theorem d_PatternBookModel_unpack_1 : decode b_PatternBookModel_unpack 1 = .ok (.iload_n 1, 1) := by decide +kernel
theorem d_PatternBookModel_unpack_2 : decode b_PatternBookModel_unpack 2 = .ok (.invokevirtual 142, 3) := by decide +kernel
theorem d_PatternBookModel_unpack_5 : decode b_PatternBookModel_unpack 5 = .ok (.ifCond .ne 5, 3) := by decide +kernel
theorem d_PatternBookModel_unpack_8 : decode b_PatternBookModel_unpack 8 = .ok (.iconst 0, 1) := by decide +kernel
theorem d_PatternBookModel_unpack_9 : decode b_PatternBookModel_unpack 9 = .ok (.ireturn, 1) := by decide +kernel
theorem d_PatternBookModel_unpack_10 : decode b_PatternBookModel_unpack 10 = .ok (.aload_n 0, 1) := by decide +kernel
theorem d_PatternBookModel_unpack_11 : decode b_PatternBookModel_unpack 11 = .ok (.lload_n 2, 1) := by decide +kernel
theorem d_PatternBookModel_unpack_12 : decode b_PatternBookModel_unpack 12 = .ok (.putfield 48, 3) := by decide +kernel
theorem d_PatternBookModel_unpack_15 : decode b_PatternBookModel_unpack 15 = .ok (.aload_n 0, 1) := by decide +kernel
theorem d_PatternBookModel_unpack_16 : decode b_PatternBookModel_unpack 16 = .ok (.lload 4, 2) := by decide +kernel
theorem d_PatternBookModel_unpack_18 : decode b_PatternBookModel_unpack 18 = .ok (.putfield 44, 3) := by decide +kernel
theorem d_PatternBookModel_unpack_21 : decode b_PatternBookModel_unpack 21 = .ok (.aload_n 0, 1) := by decide +kernel
theorem d_PatternBookModel_unpack_22 : decode b_PatternBookModel_unpack 22 = .ok (.iload_n 1, 1) := by decide +kernel
theorem d_PatternBookModel_unpack_23 : decode b_PatternBookModel_unpack 23 = .ok (.invokevirtual 145, 3) := by decide +kernel
theorem d_PatternBookModel_unpack_26 : decode b_PatternBookModel_unpack 26 = .ok (.aload_n 0, 1) := by decide +kernel
theorem d_PatternBookModel_unpack_27 : decode b_PatternBookModel_unpack 27 = .ok (.getfield 76, 3) := by decide +kernel
theorem d_PatternBookModel_unpack_30 : decode b_PatternBookModel_unpack 30 = .ok (.ireturn, 1) := by decide +kernel
theorem d_PatternBookModel_canonical_0 : decode b_PatternBookModel_canonical 0 = .ok (.aload_n 0, 1) := by decide +kernel
theorem d_PatternBookModel_canonical_1 : decode b_PatternBookModel_canonical 1 = .ok (.iload_n 1, 1) := by decide +kernel
theorem d_PatternBookModel_canonical_2 : decode b_PatternBookModel_canonical 2 = .ok (.invokevirtual 142, 3) := by decide +kernel
theorem d_PatternBookModel_canonical_5 : decode b_PatternBookModel_canonical 5 = .ok (.ifCond .ne 5, 3) := by decide +kernel
theorem d_PatternBookModel_canonical_8 : decode b_PatternBookModel_canonical 8 = .ok (.iconst 0, 1) := by decide +kernel
theorem d_PatternBookModel_canonical_9 : decode b_PatternBookModel_canonical 9 = .ok (.ireturn, 1) := by decide +kernel
theorem d_PatternBookModel_canonical_10 : decode b_PatternBookModel_canonical 10 = .ok (.aload_n 0, 1) := by decide +kernel
theorem d_PatternBookModel_canonical_11 : decode b_PatternBookModel_canonical 11 = .ok (.getfield 76, 3) := by decide +kernel
theorem d_PatternBookModel_canonical_14 : decode b_PatternBookModel_canonical 14 = .ok (.istore 6, 2) := by decide +kernel
theorem d_PatternBookModel_canonical_16 : decode b_PatternBookModel_canonical 16 = .ok (.aload_n 0, 1) := by decide +kernel
theorem d_PatternBookModel_canonical_17 : decode b_PatternBookModel_canonical 17 = .ok (.getfield 73, 3) := by decide +kernel
theorem d_PatternBookModel_canonical_20 : decode b_PatternBookModel_canonical 20 = .ok (.istore 7, 2) := by decide +kernel
theorem d_PatternBookModel_canonical_22 : decode b_PatternBookModel_canonical 22 = .ok (.aload_n 0, 1) := by decide +kernel
theorem d_PatternBookModel_canonical_23 : decode b_PatternBookModel_canonical 23 = .ok (.getfield 79, 3) := by decide +kernel
theorem d_PatternBookModel_canonical_26 : decode b_PatternBookModel_canonical 26 = .ok (.istore 8, 2) := by decide +kernel
theorem d_PatternBookModel_canonical_28 : decode b_PatternBookModel_canonical 28 = .ok (.aload_n 0, 1) := by decide +kernel
theorem d_PatternBookModel_canonical_29 : decode b_PatternBookModel_canonical 29 = .ok (.getfield 7, 3) := by decide +kernel
theorem d_PatternBookModel_canonical_32 : decode b_PatternBookModel_canonical 32 = .ok (.iconst 0, 1) := by decide +kernel
theorem d_PatternBookModel_canonical_33 : decode b_PatternBookModel_canonical 33 = .ok (.laload, 1) := by decide +kernel
theorem d_PatternBookModel_canonical_34 : decode b_PatternBookModel_canonical 34 = .ok (.lstore 9, 2) := by decide +kernel
theorem d_PatternBookModel_canonical_36 : decode b_PatternBookModel_canonical 36 = .ok (.aload_n 0, 1) := by decide +kernel
theorem d_PatternBookModel_canonical_37 : decode b_PatternBookModel_canonical 37 = .ok (.getfield 7, 3) := by decide +kernel
theorem d_PatternBookModel_canonical_40 : decode b_PatternBookModel_canonical 40 = .ok (.iconst 1, 1) := by decide +kernel
theorem d_PatternBookModel_canonical_41 : decode b_PatternBookModel_canonical 41 = .ok (.laload, 1) := by decide +kernel
theorem d_PatternBookModel_canonical_42 : decode b_PatternBookModel_canonical 42 = .ok (.lstore 11, 2) := by decide +kernel
theorem d_PatternBookModel_canonical_44 : decode b_PatternBookModel_canonical 44 = .ok (.aload_n 0, 1) := by decide +kernel
theorem d_PatternBookModel_canonical_45 : decode b_PatternBookModel_canonical 45 = .ok (.getfield 7, 3) := by decide +kernel
theorem d_PatternBookModel_canonical_48 : decode b_PatternBookModel_canonical 48 = .ok (.iconst 2, 1) := by decide +kernel
theorem d_PatternBookModel_canonical_49 : decode b_PatternBookModel_canonical 49 = .ok (.laload, 1) := by decide +kernel
theorem d_PatternBookModel_canonical_50 : decode b_PatternBookModel_canonical 50 = .ok (.lstore 13, 2) := by decide +kernel
theorem d_PatternBookModel_canonical_52 : decode b_PatternBookModel_canonical 52 = .ok (.aload_n 0, 1) := by decide +kernel
theorem d_PatternBookModel_canonical_53 : decode b_PatternBookModel_canonical 53 = .ok (.getfield 7, 3) := by decide +kernel
theorem d_PatternBookModel_canonical_56 : decode b_PatternBookModel_canonical 56 = .ok (.iconst 3, 1) := by decide +kernel
theorem d_PatternBookModel_canonical_57 : decode b_PatternBookModel_canonical 57 = .ok (.laload, 1) := by decide +kernel
theorem d_PatternBookModel_canonical_58 : decode b_PatternBookModel_canonical 58 = .ok (.lstore 15, 2) := by decide +kernel
theorem d_PatternBookModel_canonical_60 : decode b_PatternBookModel_canonical 60 = .ok (.aload_n 0, 1) := by decide +kernel
theorem d_PatternBookModel_canonical_61 : decode b_PatternBookModel_canonical 61 = .ok (.lload_n 2, 1) := by decide +kernel
theorem d_PatternBookModel_canonical_62 : decode b_PatternBookModel_canonical 62 = .ok (.putfield 48, 3) := by decide +kernel
theorem d_PatternBookModel_canonical_65 : decode b_PatternBookModel_canonical 65 = .ok (.aload_n 0, 1) := by decide +kernel
theorem d_PatternBookModel_canonical_66 : decode b_PatternBookModel_canonical 66 = .ok (.lload 4, 2) := by decide +kernel
theorem d_PatternBookModel_canonical_68 : decode b_PatternBookModel_canonical 68 = .ok (.putfield 44, 3) := by decide +kernel
theorem d_PatternBookModel_canonical_71 : decode b_PatternBookModel_canonical 71 = .ok (.aload_n 0, 1) := by decide +kernel
theorem d_PatternBookModel_canonical_72 : decode b_PatternBookModel_canonical 72 = .ok (.iload_n 1, 1) := by decide +kernel
theorem d_PatternBookModel_canonical_73 : decode b_PatternBookModel_canonical 73 = .ok (.invokevirtual 69, 3) := by decide +kernel
theorem d_PatternBookModel_canonical_76 : decode b_PatternBookModel_canonical 76 = .ok (.aload_n 0, 1) := by decide +kernel
theorem d_PatternBookModel_canonical_77 : decode b_PatternBookModel_canonical 77 = .ok (.getfield 48, 3) := by decide +kernel
theorem d_PatternBookModel_canonical_80 : decode b_PatternBookModel_canonical 80 = .ok (.lstore 17, 2) := by decide +kernel
theorem d_PatternBookModel_canonical_82 : decode b_PatternBookModel_canonical 82 = .ok (.aload_n 0, 1) := by decide +kernel
theorem d_PatternBookModel_canonical_83 : decode b_PatternBookModel_canonical 83 = .ok (.getfield 44, 3) := by decide +kernel
theorem d_PatternBookModel_canonical_86 : decode b_PatternBookModel_canonical 86 = .ok (.lstore 19, 2) := by decide +kernel
theorem d_PatternBookModel_canonical_88 : decode b_PatternBookModel_canonical 88 = .ok (.aload_n 0, 1) := by decide +kernel
theorem d_PatternBookModel_canonical_89 : decode b_PatternBookModel_canonical 89 = .ok (.iload_n 1, 1) := by decide +kernel
theorem d_PatternBookModel_canonical_90 : decode b_PatternBookModel_canonical 90 = .ok (.invokevirtual 145, 3) := by decide +kernel
theorem d_PatternBookModel_canonical_93 : decode b_PatternBookModel_canonical 93 = .ok (.aload_n 0, 1) := by decide +kernel
theorem d_PatternBookModel_canonical_94 : decode b_PatternBookModel_canonical 94 = .ok (.iload_n 1, 1) := by decide +kernel
theorem d_PatternBookModel_canonical_95 : decode b_PatternBookModel_canonical 95 = .ok (.invokevirtual 148, 3) := by decide +kernel
theorem d_PatternBookModel_canonical_98 : decode b_PatternBookModel_canonical 98 = .ok (.aload_n 0, 1) := by decide +kernel
theorem d_PatternBookModel_canonical_99 : decode b_PatternBookModel_canonical 99 = .ok (.getfield 48, 3) := by decide +kernel
theorem d_PatternBookModel_canonical_102 : decode b_PatternBookModel_canonical 102 = .ok (.lload 17, 2) := by decide +kernel
theorem d_PatternBookModel_canonical_104 : decode b_PatternBookModel_canonical 104 = .ok (.lcmp, 1) := by decide +kernel
theorem d_PatternBookModel_canonical_105 : decode b_PatternBookModel_canonical 105 = .ok (.ifCond .ne 17, 3) := by decide +kernel
theorem d_PatternBookModel_canonical_108 : decode b_PatternBookModel_canonical 108 = .ok (.aload_n 0, 1) := by decide +kernel
theorem d_PatternBookModel_canonical_109 : decode b_PatternBookModel_canonical 109 = .ok (.getfield 44, 3) := by decide +kernel
theorem d_PatternBookModel_canonical_112 : decode b_PatternBookModel_canonical 112 = .ok (.lload 19, 2) := by decide +kernel
theorem d_PatternBookModel_canonical_114 : decode b_PatternBookModel_canonical 114 = .ok (.lcmp, 1) := by decide +kernel
theorem d_PatternBookModel_canonical_115 : decode b_PatternBookModel_canonical 115 = .ok (.ifCond .ne 7, 3) := by decide +kernel
theorem d_PatternBookModel_canonical_118 : decode b_PatternBookModel_canonical 118 = .ok (.iconst 1, 1) := by decide +kernel
theorem d_PatternBookModel_canonical_119 : decode b_PatternBookModel_canonical 119 = .ok (.goto 4, 3) := by decide +kernel
theorem d_PatternBookModel_canonical_122 : decode b_PatternBookModel_canonical 122 = .ok (.iconst 0, 1) := by decide +kernel
theorem d_PatternBookModel_canonical_123 : decode b_PatternBookModel_canonical 123 = .ok (.istore 21, 2) := by decide +kernel
theorem d_PatternBookModel_canonical_125 : decode b_PatternBookModel_canonical 125 = .ok (.aload_n 0, 1) := by decide +kernel
theorem d_PatternBookModel_canonical_126 : decode b_PatternBookModel_canonical 126 = .ok (.iload 6, 2) := by decide +kernel
theorem d_PatternBookModel_canonical_128 : decode b_PatternBookModel_canonical 128 = .ok (.putfield 76, 3) := by decide +kernel
theorem d_PatternBookModel_canonical_131 : decode b_PatternBookModel_canonical 131 = .ok (.aload_n 0, 1) := by decide +kernel
theorem d_PatternBookModel_canonical_132 : decode b_PatternBookModel_canonical 132 = .ok (.iload 7, 2) := by decide +kernel
theorem d_PatternBookModel_canonical_134 : decode b_PatternBookModel_canonical 134 = .ok (.putfield 73, 3) := by decide +kernel
theorem d_PatternBookModel_canonical_137 : decode b_PatternBookModel_canonical 137 = .ok (.aload_n 0, 1) := by decide +kernel
theorem d_PatternBookModel_canonical_138 : decode b_PatternBookModel_canonical 138 = .ok (.iload 8, 2) := by decide +kernel
theorem d_PatternBookModel_canonical_140 : decode b_PatternBookModel_canonical 140 = .ok (.putfield 79, 3) := by decide +kernel
theorem d_PatternBookModel_canonical_143 : decode b_PatternBookModel_canonical 143 = .ok (.aload_n 0, 1) := by decide +kernel
theorem d_PatternBookModel_canonical_144 : decode b_PatternBookModel_canonical 144 = .ok (.getfield 7, 3) := by decide +kernel
theorem d_PatternBookModel_canonical_147 : decode b_PatternBookModel_canonical 147 = .ok (.iconst 0, 1) := by decide +kernel
theorem d_PatternBookModel_canonical_148 : decode b_PatternBookModel_canonical 148 = .ok (.lload 9, 2) := by decide +kernel
theorem d_PatternBookModel_canonical_150 : decode b_PatternBookModel_canonical 150 = .ok (.lastore, 1) := by decide +kernel
theorem d_PatternBookModel_canonical_151 : decode b_PatternBookModel_canonical 151 = .ok (.aload_n 0, 1) := by decide +kernel
theorem d_PatternBookModel_canonical_152 : decode b_PatternBookModel_canonical 152 = .ok (.getfield 7, 3) := by decide +kernel
theorem d_PatternBookModel_canonical_155 : decode b_PatternBookModel_canonical 155 = .ok (.iconst 1, 1) := by decide +kernel
theorem d_PatternBookModel_canonical_156 : decode b_PatternBookModel_canonical 156 = .ok (.lload 11, 2) := by decide +kernel
theorem d_PatternBookModel_canonical_158 : decode b_PatternBookModel_canonical 158 = .ok (.lastore, 1) := by decide +kernel
theorem d_PatternBookModel_canonical_159 : decode b_PatternBookModel_canonical 159 = .ok (.aload_n 0, 1) := by decide +kernel
theorem d_PatternBookModel_canonical_160 : decode b_PatternBookModel_canonical 160 = .ok (.getfield 7, 3) := by decide +kernel
theorem d_PatternBookModel_canonical_163 : decode b_PatternBookModel_canonical 163 = .ok (.iconst 2, 1) := by decide +kernel
theorem d_PatternBookModel_canonical_164 : decode b_PatternBookModel_canonical 164 = .ok (.lload 13, 2) := by decide +kernel
theorem d_PatternBookModel_canonical_166 : decode b_PatternBookModel_canonical 166 = .ok (.lastore, 1) := by decide +kernel
theorem d_PatternBookModel_canonical_167 : decode b_PatternBookModel_canonical 167 = .ok (.aload_n 0, 1) := by decide +kernel
theorem d_PatternBookModel_canonical_168 : decode b_PatternBookModel_canonical 168 = .ok (.getfield 7, 3) := by decide +kernel
theorem d_PatternBookModel_canonical_171 : decode b_PatternBookModel_canonical 171 = .ok (.iconst 3, 1) := by decide +kernel
theorem d_PatternBookModel_canonical_172 : decode b_PatternBookModel_canonical 172 = .ok (.lload 15, 2) := by decide +kernel
theorem d_PatternBookModel_canonical_174 : decode b_PatternBookModel_canonical 174 = .ok (.lastore, 1) := by decide +kernel
theorem d_PatternBookModel_canonical_175 : decode b_PatternBookModel_canonical 175 = .ok (.iload 21, 2) := by decide +kernel
theorem d_PatternBookModel_canonical_177 : decode b_PatternBookModel_canonical 177 = .ok (.ireturn, 1) := by decide +kernel
theorem d_PatternBookModel_put_0 : decode b_PatternBookModel_put 0 = .ok (.aload_n 0, 1) := by decide +kernel
theorem d_PatternBookModel_put_1 : decode b_PatternBookModel_put 1 = .ok (.iconst 0, 1) := by decide +kernel
theorem d_PatternBookModel_put_2 : decode b_PatternBookModel_put 2 = .ok (.putfield 24, 3) := by decide +kernel
theorem d_PatternBookModel_put_5 : decode b_PatternBookModel_put 5 = .ok (.iload_n 1, 1) := by decide +kernel
theorem d_PatternBookModel_put_6 : decode b_PatternBookModel_put 6 = .ok (.ifCond .lt 8, 3) := by decide +kernel
theorem d_PatternBookModel_put_9 : decode b_PatternBookModel_put 9 = .ok (.iload_n 1, 1) := by decide +kernel
theorem d_PatternBookModel_put_10 : decode b_PatternBookModel_put 10 = .ok (.iconst 3, 1) := by decide +kernel
theorem d_PatternBookModel_put_11 : decode b_PatternBookModel_put 11 = .ok (.if_icmp .le 5, 3) := by decide +kernel
theorem d_PatternBookModel_put_14 : decode b_PatternBookModel_put 14 = .ok (.iconst 0, 1) := by decide +kernel
theorem d_PatternBookModel_put_15 : decode b_PatternBookModel_put 15 = .ok (.ireturn, 1) := by decide +kernel
theorem d_PatternBookModel_put_16 : decode b_PatternBookModel_put 16 = .ok (.aload_n 0, 1) := by decide +kernel
theorem d_PatternBookModel_put_17 : decode b_PatternBookModel_put 17 = .ok (.iload_n 1, 1) := by decide +kernel
theorem d_PatternBookModel_put_18 : decode b_PatternBookModel_put 18 = .ok (.putfield 76, 3) := by decide +kernel
theorem d_PatternBookModel_put_21 : decode b_PatternBookModel_put 21 = .ok (.aload_n 0, 1) := by decide +kernel
theorem d_PatternBookModel_put_22 : decode b_PatternBookModel_put 22 = .ok (.iload_n 2, 1) := by decide +kernel
theorem d_PatternBookModel_put_23 : decode b_PatternBookModel_put 23 = .ok (.ifCond .eq 7, 3) := by decide +kernel
theorem d_PatternBookModel_put_26 : decode b_PatternBookModel_put 26 = .ok (.iconst 1, 1) := by decide +kernel
theorem d_PatternBookModel_put_27 : decode b_PatternBookModel_put 27 = .ok (.goto 4, 3) := by decide +kernel
theorem d_PatternBookModel_put_30 : decode b_PatternBookModel_put 30 = .ok (.iconst 0, 1) := by decide +kernel
theorem d_PatternBookModel_put_31 : decode b_PatternBookModel_put 31 = .ok (.putfield 73, 3) := by decide +kernel
theorem d_PatternBookModel_put_34 : decode b_PatternBookModel_put 34 = .ok (.aload_n 0, 1) := by decide +kernel
theorem d_PatternBookModel_put_35 : decode b_PatternBookModel_put 35 = .ok (.iload_n 1, 1) := by decide +kernel
theorem d_PatternBookModel_put_36 : decode b_PatternBookModel_put 36 = .ok (.ifCond .ne 7, 3) := by decide +kernel
theorem d_PatternBookModel_put_39 : decode b_PatternBookModel_put 39 = .ok (.iload_n 3, 1) := by decide +kernel
theorem d_PatternBookModel_put_40 : decode b_PatternBookModel_put 40 = .ok (.goto 4, 3) := by decide +kernel
theorem d_PatternBookModel_put_43 : decode b_PatternBookModel_put 43 = .ok (.iconst 0, 1) := by decide +kernel
theorem d_PatternBookModel_put_44 : decode b_PatternBookModel_put 44 = .ok (.putfield 79, 3) := by decide +kernel
theorem d_PatternBookModel_put_47 : decode b_PatternBookModel_put 47 = .ok (.aload_n 0, 1) := by decide +kernel
theorem d_PatternBookModel_put_48 : decode b_PatternBookModel_put 48 = .ok (.iconst 0, 1) := by decide +kernel
theorem d_PatternBookModel_put_49 : decode b_PatternBookModel_put 49 = .ok (.iload_n 1, 1) := by decide +kernel
theorem d_PatternBookModel_put_50 : decode b_PatternBookModel_put 50 = .ok (.iconst 1, 1) := by decide +kernel
theorem d_PatternBookModel_put_51 : decode b_PatternBookModel_put 51 = .ok (.if_icmp .ne 7, 3) := by decide +kernel
theorem d_PatternBookModel_put_54 : decode b_PatternBookModel_put 54 = .ok (.lconst 0, 1) := by decide +kernel
theorem d_PatternBookModel_put_55 : decode b_PatternBookModel_put 55 = .ok (.goto 5, 3) := by decide +kernel
theorem d_PatternBookModel_put_58 : decode b_PatternBookModel_put 58 = .ok (.lload 6, 2) := by decide +kernel
theorem d_PatternBookModel_put_60 : decode b_PatternBookModel_put 60 = .ok (.invokevirtual 36, 3) := by decide +kernel
theorem d_PatternBookModel_put_63 : decode b_PatternBookModel_put 63 = .ok (.aload_n 0, 1) := by decide +kernel
theorem d_PatternBookModel_put_64 : decode b_PatternBookModel_put 64 = .ok (.getfield 7, 3) := by decide +kernel
theorem d_PatternBookModel_put_67 : decode b_PatternBookModel_put 67 = .ok (.iconst 2, 1) := by decide +kernel
theorem d_PatternBookModel_put_68 : decode b_PatternBookModel_put 68 = .ok (.iload_n 1, 1) := by decide +kernel
theorem d_PatternBookModel_put_69 : decode b_PatternBookModel_put 69 = .ok (.iconst 1, 1) := by decide +kernel
theorem d_PatternBookModel_put_70 : decode b_PatternBookModel_put 70 = .ok (.if_icmp .ne 7, 3) := by decide +kernel
theorem d_PatternBookModel_put_73 : decode b_PatternBookModel_put 73 = .ok (.lconst 0, 1) := by decide +kernel
theorem d_PatternBookModel_put_74 : decode b_PatternBookModel_put 74 = .ok (.goto 9, 3) := by decide +kernel
theorem d_PatternBookModel_put_77 : decode b_PatternBookModel_put 77 = .ok (.lload 4, 2) := by decide +kernel
theorem d_PatternBookModel_put_79 : decode b_PatternBookModel_put 79 = .ok (.ldc2_w 34, 3) := by decide +kernel
theorem d_PatternBookModel_put_82 : decode b_PatternBookModel_put 82 = .ok (.land, 1) := by decide +kernel
theorem d_PatternBookModel_put_83 : decode b_PatternBookModel_put 83 = .ok (.lastore, 1) := by decide +kernel
theorem d_PatternBookModel_put_84 : decode b_PatternBookModel_put 84 = .ok (.aload_n 0, 1) := by decide +kernel
theorem d_PatternBookModel_put_85 : decode b_PatternBookModel_put 85 = .ok (.getfield 7, 3) := by decide +kernel
theorem d_PatternBookModel_put_88 : decode b_PatternBookModel_put 88 = .ok (.iconst 3, 1) := by decide +kernel
theorem d_PatternBookModel_put_89 : decode b_PatternBookModel_put 89 = .ok (.iload_n 1, 1) := by decide +kernel
theorem d_PatternBookModel_put_90 : decode b_PatternBookModel_put 90 = .ok (.iconst 1, 1) := by decide +kernel
theorem d_PatternBookModel_put_91 : decode b_PatternBookModel_put 91 = .ok (.if_icmp .ne 7, 3) := by decide +kernel
theorem d_PatternBookModel_put_94 : decode b_PatternBookModel_put 94 = .ok (.lconst 0, 1) := by decide +kernel
theorem d_PatternBookModel_put_95 : decode b_PatternBookModel_put 95 = .ok (.goto 8, 3) := by decide +kernel
theorem d_PatternBookModel_put_98 : decode b_PatternBookModel_put 98 = .ok (.lload 4, 2) := by decide +kernel
theorem d_PatternBookModel_put_100 : decode b_PatternBookModel_put 100 = .ok (.bipush 32, 2) := by decide +kernel
theorem d_PatternBookModel_put_102 : decode b_PatternBookModel_put 102 = .ok (.lushr, 1) := by decide +kernel
theorem d_PatternBookModel_put_103 : decode b_PatternBookModel_put 103 = .ok (.lastore, 1) := by decide +kernel
theorem d_PatternBookModel_put_104 : decode b_PatternBookModel_put 104 = .ok (.iconst 1, 1) := by decide +kernel
theorem d_PatternBookModel_put_105 : decode b_PatternBookModel_put 105 = .ok (.ireturn, 1) := by decide +kernel
theorem d_PatternBookModel_pack_0 : decode b_PatternBookModel_pack 0 = .ok (.aload_n 0, 1) := by decide +kernel
theorem d_PatternBookModel_pack_1 : decode b_PatternBookModel_pack 1 = .ok (.iload_n 1, 1) := by decide +kernel
theorem d_PatternBookModel_pack_2 : decode b_PatternBookModel_pack 2 = .ok (.invokevirtual 142, 3) := by decide +kernel
theorem d_PatternBookModel_pack_5 : decode b_PatternBookModel_pack 5 = .ok (.ifCond .eq 11, 3) := by decide +kernel
theorem d_PatternBookModel_pack_8 : decode b_PatternBookModel_pack 8 = .ok (.aload_n 0, 1) := by decide +kernel
theorem d_PatternBookModel_pack_9 : decode b_PatternBookModel_pack 9 = .ok (.iload_n 1, 1) := by decide +kernel
theorem d_PatternBookModel_pack_10 : decode b_PatternBookModel_pack 10 = .ok (.invokevirtual 151, 3) := by decide +kernel
theorem d_PatternBookModel_pack_13 : decode b_PatternBookModel_pack 13 = .ok (.ifCond .ne 5, 3) := by decide +kernel
theorem d_PatternBookModel_pack_16 : decode b_PatternBookModel_pack 16 = .ok (.iconst 0, 1) := by decide +kernel
theorem d_PatternBookModel_pack_17 : decode b_PatternBookModel_pack 17 = .ok (.ireturn, 1) := by decide +kernel
theorem d_PatternBookModel_pack_18 : decode b_PatternBookModel_pack 18 = .ok (.aload_n 0, 1) := by decide +kernel
theorem d_PatternBookModel_pack_19 : decode b_PatternBookModel_pack 19 = .ok (.iload_n 1, 1) := by decide +kernel
theorem d_PatternBookModel_pack_20 : decode b_PatternBookModel_pack 20 = .ok (.invokevirtual 148, 3) := by decide +kernel
theorem d_PatternBookModel_pack_23 : decode b_PatternBookModel_pack 23 = .ok (.aload_n 0, 1) := by decide +kernel
theorem d_PatternBookModel_pack_24 : decode b_PatternBookModel_pack 24 = .ok (.aload_n 0, 1) := by decide +kernel
theorem d_PatternBookModel_pack_25 : decode b_PatternBookModel_pack 25 = .ok (.getfield 48, 3) := by decide +kernel
theorem d_PatternBookModel_pack_28 : decode b_PatternBookModel_pack 28 = .ok (.putfield 154, 3) := by decide +kernel
theorem d_PatternBookModel_pack_31 : decode b_PatternBookModel_pack 31 = .ok (.aload_n 0, 1) := by decide +kernel
theorem d_PatternBookModel_pack_32 : decode b_PatternBookModel_pack 32 = .ok (.aload_n 0, 1) := by decide +kernel
theorem d_PatternBookModel_pack_33 : decode b_PatternBookModel_pack 33 = .ok (.getfield 44, 3) := by decide +kernel
theorem d_PatternBookModel_pack_36 : decode b_PatternBookModel_pack 36 = .ok (.putfield 157, 3) := by decide +kernel
theorem d_PatternBookModel_pack_39 : decode b_PatternBookModel_pack 39 = .ok (.iconst 1, 1) := by decide +kernel
theorem d_PatternBookModel_pack_40 : decode b_PatternBookModel_pack 40 = .ok (.ireturn, 1) := by decide +kernel
theorem d_PatternBookModel_pattern_0 : decode b_PatternBookModel_pattern 0 = .ok (.aload_n 0, 1) := by decide +kernel
theorem d_PatternBookModel_pattern_1 : decode b_PatternBookModel_pattern 1 = .ok (.iconst 0, 1) := by decide +kernel
theorem d_PatternBookModel_pattern_2 : decode b_PatternBookModel_pattern 2 = .ok (.putfield 24, 3) := by decide +kernel
theorem d_PatternBookModel_pattern_5 : decode b_PatternBookModel_pattern 5 = .ok (.iload_n 1, 1) := by decide +kernel
theorem d_PatternBookModel_pattern_6 : decode b_PatternBookModel_pattern 6 = .ok (.ifCond .eq 10, 3) := by decide +kernel
theorem d_PatternBookModel_pattern_9 : decode b_PatternBookModel_pattern 9 = .ok (.aload_n 0, 1) := by decide +kernel
theorem d_PatternBookModel_pattern_10 : decode b_PatternBookModel_pattern 10 = .ok (.getfield 154, 3) := by decide +kernel
theorem d_PatternBookModel_pattern_13 : decode b_PatternBookModel_pattern 13 = .ok (.goto 7, 3) := by decide +kernel
theorem d_PatternBookModel_pattern_16 : decode b_PatternBookModel_pattern 16 = .ok (.aload_n 0, 1) := by decide +kernel
theorem d_PatternBookModel_pattern_17 : decode b_PatternBookModel_pattern 17 = .ok (.getfield 157, 3) := by decide +kernel
theorem d_PatternBookModel_pattern_20 : decode b_PatternBookModel_pattern 20 = .ok (.lreturn, 1) := by decide +kernel
theorem d_PatternBookModel_look_0 : decode b_PatternBookModel_look 0 = .ok (.aload_n 0, 1) := by decide +kernel
theorem d_PatternBookModel_look_1 : decode b_PatternBookModel_look 1 = .ok (.iconst 0, 1) := by decide +kernel
theorem d_PatternBookModel_look_2 : decode b_PatternBookModel_look 2 = .ok (.putfield 24, 3) := by decide +kernel
theorem d_PatternBookModel_look_5 : decode b_PatternBookModel_look 5 = .ok (.iload_n 1, 1) := by decide +kernel
theorem d_PatternBookModel_look_6 : decode b_PatternBookModel_look 6 = .ok (.ifCond .ne 10, 3) := by decide +kernel
theorem d_PatternBookModel_look_9 : decode b_PatternBookModel_look 9 = .ok (.aload_n 0, 1) := by decide +kernel
theorem d_PatternBookModel_look_10 : decode b_PatternBookModel_look 10 = .ok (.getfield 76, 3) := by decide +kernel
theorem d_PatternBookModel_look_13 : decode b_PatternBookModel_look 13 = .ok (.goto 28, 3) := by decide +kernel
theorem d_PatternBookModel_look_16 : decode b_PatternBookModel_look 16 = .ok (.iload_n 1, 1) := by decide +kernel
theorem d_PatternBookModel_look_17 : decode b_PatternBookModel_look 17 = .ok (.iconst 1, 1) := by decide +kernel
theorem d_PatternBookModel_look_18 : decode b_PatternBookModel_look 18 = .ok (.if_icmp .ne 10, 3) := by decide +kernel
