theorem d_PatternBook_PlainDecimal_headOf_21 : decode b_PatternBook_PlainDecimal_headOf 21 = .ok (.isub, 1) := by decide +kernel
theorem d_PatternBook_PlainDecimal_headOf_22 : decode b_PatternBook_PlainDecimal_headOf 22 = .ok (.lshl, 1) := by decide +kernel
theorem d_PatternBook_PlainDecimal_headOf_23 : decode b_PatternBook_PlainDecimal_headOf 23 = .ok (.lload_n 1, 1) := by decide +kernel
theorem d_PatternBook_PlainDecimal_headOf_24 : decode b_PatternBook_PlainDecimal_headOf 24 = .ok (.iconst 1, 1) := by decide +kernel
theorem d_PatternBook_PlainDecimal_headOf_25 : decode b_PatternBook_PlainDecimal_headOf 25 = .ok (.lshl, 1) := by decide +kernel
theorem d_PatternBook_PlainDecimal_headOf_26 : decode b_PatternBook_PlainDecimal_headOf 26 = .ok (.lor, 1) := by decide +kernel
theorem d_PatternBook_PlainDecimal_headOf_27 : decode b_PatternBook_PlainDecimal_headOf 27 = .ok (.iload_n 3, 1) := by decide +kernel
theorem d_PatternBook_PlainDecimal_headOf_28 : decode b_PatternBook_PlainDecimal_headOf 28 = .ok (.iconst 1, 1) := by decide +kernel
theorem d_PatternBook_PlainDecimal_headOf_29 : decode b_PatternBook_PlainDecimal_headOf 29 = .ok (.iand, 1) := by decide +kernel
theorem d_PatternBook_PlainDecimal_headOf_30 : decode b_PatternBook_PlainDecimal_headOf 30 = .ok (.i2l, 1) := by decide +kernel
theorem d_PatternBook_PlainDecimal_headOf_31 : decode b_PatternBook_PlainDecimal_headOf 31 = .ok (.lor, 1) := by decide +kernel
theorem d_PatternBook_PlainDecimal_headOf_32 : decode b_PatternBook_PlainDecimal_headOf 32 = .ok (.lreturn, 1) := by decide +kernel
theorem d_PatternBook_Decimal_hasNumber_0 : decode b_PatternBook_Decimal_hasNumber 0 = .ok (.aload_n 1, 1) := by decide +kernel
theorem d_PatternBook_Decimal_hasNumber_1 : decode b_PatternBook_Decimal_hasNumber 1 = .ok (.getfield 41, 3) := by decide +kernel
theorem d_PatternBook_Decimal_hasNumber_4 : decode b_PatternBook_Decimal_hasNumber 4 = .ok (.aload_n 0, 1) := by decide +kernel
theorem d_PatternBook_Decimal_hasNumber_5 : decode b_PatternBook_Decimal_hasNumber 5 = .ok (.getfield 25, 3) := by decide +kernel
theorem d_PatternBook_Decimal_hasNumber_8 : decode b_PatternBook_Decimal_hasNumber 8 = .ok (.invokevirtual 46, 3) := by decide +kernel
theorem d_PatternBook_Decimal_hasNumber_11 : decode b_PatternBook_Decimal_hasNumber 11 = .ok (.ifCond .ne 7, 3) := by decide +kernel
theorem d_PatternBook_Decimal_hasNumber_14 : decode b_PatternBook_Decimal_hasNumber 14 = .ok (.iconst 1, 1) := by decide +kernel
theorem d_PatternBook_Decimal_hasNumber_15 : decode b_PatternBook_Decimal_hasNumber 15 = .ok (.goto 4, 3) := by decide +kernel
theorem d_PatternBook_Decimal_hasNumber_18 : decode b_PatternBook_Decimal_hasNumber 18 = .ok (.iconst 0, 1) := by decide +kernel
theorem d_PatternBook_Decimal_hasNumber_19 : decode b_PatternBook_Decimal_hasNumber 19 = .ok (.ireturn, 1) := by decide +kernel
theorem d_PatternBook_Decimal_hasNan_0 : decode b_PatternBook_Decimal_hasNan 0 = .ok (.aload_n 1, 1) := by decide +kernel
theorem d_PatternBook_Decimal_hasNan_1 : decode b_PatternBook_Decimal_hasNan 1 = .ok (.getfield 41, 3) := by decide +kernel
theorem d_PatternBook_Decimal_hasNan_4 : decode b_PatternBook_Decimal_hasNan 4 = .ok (.aload_n 0, 1) := by decide +kernel
theorem d_PatternBook_Decimal_hasNan_5 : decode b_PatternBook_Decimal_hasNan 5 = .ok (.getfield 29, 3) := by decide +kernel
theorem d_PatternBook_Decimal_hasNan_8 : decode b_PatternBook_Decimal_hasNan 8 = .ok (.invokevirtual 46, 3) := by decide +kernel
theorem d_PatternBook_Decimal_hasNan_11 : decode b_PatternBook_Decimal_hasNan 11 = .ok (.ifCond .ne 7, 3) := by decide +kernel
theorem d_PatternBook_Decimal_hasNan_14 : decode b_PatternBook_Decimal_hasNan 14 = .ok (.iconst 1, 1) := by decide +kernel
theorem d_PatternBook_Decimal_hasNan_15 : decode b_PatternBook_Decimal_hasNan 15 = .ok (.goto 4, 3) := by decide +kernel
theorem d_PatternBook_Decimal_hasNan_18 : decode b_PatternBook_Decimal_hasNan 18 = .ok (.iconst 0, 1) := by decide +kernel
theorem d_PatternBook_Decimal_hasNan_19 : decode b_PatternBook_Decimal_hasNan 19 = .ok (.ireturn, 1) := by decide +kernel
theorem d_PatternBook_Decimal_headFor_0 : decode b_PatternBook_Decimal_headFor 0 = .ok (.aload_n 1, 1) := by decide +kernel
theorem d_PatternBook_Decimal_headFor_1 : decode b_PatternBook_Decimal_headFor 1 = .ok (.getfield 88, 3) := by decide +kernel
theorem d_PatternBook_Decimal_headFor_4 : decode b_PatternBook_Decimal_headFor 4 = .ok (.tableswitch 66 0 2 #[28, 44, 55], 28) := by decide +kernel
theorem d_PatternBook_Decimal_headFor_32 : decode b_PatternBook_Decimal_headFor 32 = .ok (.aload_n 0, 1) := by decide +kernel
theorem d_PatternBook_Decimal_headFor_33 : decode b_PatternBook_Decimal_headFor 33 = .ok (.aload_n 1, 1) := by decide +kernel
theorem d_PatternBook_Decimal_headFor_34 : decode b_PatternBook_Decimal_headFor 34 = .ok (.getfield 91, 3) := by decide +kernel
theorem d_PatternBook_Decimal_headFor_37 : decode b_PatternBook_Decimal_headFor 37 = .ok (.aload_n 0, 1) := by decide +kernel
theorem d_PatternBook_Decimal_headFor_38 : decode b_PatternBook_Decimal_headFor 38 = .ok (.getfield 73, 3) := by decide +kernel
theorem d_PatternBook_Decimal_headFor_41 : decode b_PatternBook_Decimal_headFor 41 = .ok (.isub, 1) := by decide +kernel
theorem d_PatternBook_Decimal_headFor_42 : decode b_PatternBook_Decimal_headFor 42 = .ok (.i2l, 1) := by decide +kernel
theorem d_PatternBook_Decimal_headFor_43 : decode b_PatternBook_Decimal_headFor 43 = .ok (.iload_n 2, 1) := by decide +kernel
theorem d_PatternBook_Decimal_headFor_44 : decode b_PatternBook_Decimal_headFor 44 = .ok (.invokevirtual 94, 3) := by decide +kernel
theorem d_PatternBook_Decimal_headFor_47 : decode b_PatternBook_Decimal_headFor 47 = .ok (.lreturn, 1) := by decide +kernel
theorem d_PatternBook_Decimal_headFor_48 : decode b_PatternBook_Decimal_headFor 48 = .ok (.ldc2_w 63, 3) := by decide +kernel
theorem d_PatternBook_Decimal_headFor_51 : decode b_PatternBook_Decimal_headFor 51 = .ok (.aload_n 0, 1) := by decide +kernel
theorem d_PatternBook_Decimal_headFor_52 : decode b_PatternBook_Decimal_headFor 52 = .ok (.getfield 18, 3) := by decide +kernel
theorem d_PatternBook_Decimal_headFor_55 : decode b_PatternBook_Decimal_headFor 55 = .ok (.iconst 5, 1) := by decide +kernel
theorem d_PatternBook_Decimal_headFor_56 : decode b_PatternBook_Decimal_headFor 56 = .ok (.isub, 1) := by decide +kernel
theorem d_PatternBook_Decimal_headFor_57 : decode b_PatternBook_Decimal_headFor 57 = .ok (.lshl, 1) := by decide +kernel
theorem d_PatternBook_Decimal_headFor_58 : decode b_PatternBook_Decimal_headFor 58 = .ok (.lreturn, 1) := by decide +kernel
theorem d_PatternBook_Decimal_headFor_59 : decode b_PatternBook_Decimal_headFor 59 = .ok (.ldc2_w 54, 3) := by decide +kernel
theorem d_PatternBook_Decimal_headFor_62 : decode b_PatternBook_Decimal_headFor 62 = .ok (.aload_n 0, 1) := by decide +kernel
theorem d_PatternBook_Decimal_headFor_63 : decode b_PatternBook_Decimal_headFor 63 = .ok (.getfield 18, 3) := by decide +kernel
theorem d_PatternBook_Decimal_headFor_66 : decode b_PatternBook_Decimal_headFor 66 = .ok (.iconst 5, 1) := by decide +kernel
theorem d_PatternBook_Decimal_headFor_67 : decode b_PatternBook_Decimal_headFor 67 = .ok (.isub, 1) := by decide +kernel
theorem d_PatternBook_Decimal_headFor_68 : decode b_PatternBook_Decimal_headFor 68 = .ok (.lshl, 1) := by decide +kernel
theorem d_PatternBook_Decimal_headFor_69 : decode b_PatternBook_Decimal_headFor 69 = .ok (.lreturn, 1) := by decide +kernel
theorem d_PatternBook_Decimal_headFor_70 : decode b_PatternBook_Decimal_headFor 70 = .ok (.ldc2_w 98, 3) := by decide +kernel
theorem d_PatternBook_Decimal_headFor_73 : decode b_PatternBook_Decimal_headFor 73 = .ok (.aload_n 0, 1) := by decide +kernel
theorem d_PatternBook_Decimal_headFor_74 : decode b_PatternBook_Decimal_headFor 74 = .ok (.getfield 18, 3) := by decide +kernel
theorem d_PatternBook_Decimal_headFor_77 : decode b_PatternBook_Decimal_headFor 77 = .ok (.bipush 6, 2) := by decide +kernel
theorem d_PatternBook_Decimal_headFor_79 : decode b_PatternBook_Decimal_headFor 79 = .ok (.isub, 1) := by decide +kernel
theorem d_PatternBook_Decimal_headFor_80 : decode b_PatternBook_Decimal_headFor 80 = .ok (.lshl, 1) := by decide +kernel
theorem d_PatternBook_Decimal_headFor_81 : decode b_PatternBook_Decimal_headFor 81 = .ok (.lreturn, 1) := by decide +kernel
theorem d_PatternBook_PlainDecimal_readBody_0 : decode b_PatternBook_PlainDecimal_readBody 0 = .ok (.aload 4, 2) := by decide +kernel
theorem d_PatternBook_PlainDecimal_readBody_2 : decode b_PatternBook_PlainDecimal_readBody 2 = .ok (.aload_n 3, 1) := by decide +kernel
theorem d_PatternBook_PlainDecimal_readBody_3 : decode b_PatternBook_PlainDecimal_readBody 3 = .ok (.invokevirtual 27, 3) := by decide +kernel
theorem d_PatternBook_PlainDecimal_readBody_6 : decode b_PatternBook_PlainDecimal_readBody 6 = .ok (.aload 4, 2) := by decide +kernel
theorem d_PatternBook_PlainDecimal_readBody_8 : decode b_PatternBook_PlainDecimal_readBody 8 = .ok (.aload_n 0, 1) := by decide +kernel
theorem d_PatternBook_PlainDecimal_readBody_9 : decode b_PatternBook_PlainDecimal_readBody 9 = .ok (.getfield 31, 3) := by decide +kernel
theorem d_PatternBook_PlainDecimal_readBody_12 : decode b_PatternBook_PlainDecimal_readBody 12 = .ok (.invokevirtual 34, 3) := by decide +kernel
theorem d_PatternBook_PlainDecimal_readBody_15 : decode b_PatternBook_PlainDecimal_readBody 15 = .ok (.aload 4, 2) := by decide +kernel
theorem d_PatternBook_PlainDecimal_readBody_17 : decode b_PatternBook_PlainDecimal_readBody 17 = .ok (.aload_n 0, 1) := by decide +kernel
theorem d_PatternBook_PlainDecimal_readBody_18 : decode b_PatternBook_PlainDecimal_readBody 18 = .ok (.getfield 31, 3) := by decide +kernel
theorem d_PatternBook_PlainDecimal_readBody_21 : decode b_PatternBook_PlainDecimal_readBody 21 = .ok (.iload_n 1, 1) := by decide +kernel
theorem d_PatternBook_PlainDecimal_readBody_22 : decode b_PatternBook_PlainDecimal_readBody 22 = .ok (.i2l, 1) := by decide +kernel
theorem d_PatternBook_PlainDecimal_readBody_23 : decode b_PatternBook_PlainDecimal_readBody 23 = .ok (.invokevirtual 38, 3) := by decide +kernel
theorem d_PatternBook_PlainDecimal_readBody_26 : decode b_PatternBook_PlainDecimal_readBody 26 = .ok (.aload 4, 2) := by decide +kernel
theorem d_PatternBook_PlainDecimal_readBody_28 : decode b_PatternBook_PlainDecimal_readBody 28 = .ok (.aload_n 2, 1) := by decide +kernel
theorem d_PatternBook_PlainDecimal_readBody_29 : decode b_PatternBook_PlainDecimal_readBody 29 = .ok (.invokevirtual 42, 3) := by decide +kernel
theorem d_PatternBook_PlainDecimal_readBody_32 : decode b_PatternBook_PlainDecimal_readBody 32 = .ok (.ifCond .eq 10, 3) := by decide +kernel
theorem d_PatternBook_PlainDecimal_readBody_35 : decode b_PatternBook_PlainDecimal_readBody 35 = .ok (.aload 4, 2) := by decide +kernel
theorem d_PatternBook_PlainDecimal_readBody_37 : decode b_PatternBook_PlainDecimal_readBody 37 = .ok (.lconst 0, 1) := by decide +kernel
theorem d_PatternBook_PlainDecimal_readBody_38 : decode b_PatternBook_PlainDecimal_readBody 38 = .ok (.lconst 0, 1) := by decide +kernel
theorem d_PatternBook_PlainDecimal_readBody_39 : decode b_PatternBook_PlainDecimal_readBody 39 = .ok (.invokevirtual 46, 3) := by decide +kernel
theorem d_PatternBook_PlainDecimal_readBody_42 : decode b_PatternBook_PlainDecimal_readBody 42 = .ok (.return_, 1) := by decide +kernel
theorem d_PatternBook_PlainDecimal_writeTail_0 : decode b_PatternBook_PlainDecimal_writeTail 0 = .ok (.aload_n 2, 1) := by decide +kernel
theorem d_PatternBook_PlainDecimal_writeTail_1 : decode b_PatternBook_PlainDecimal_writeTail 1 = .ok (.aload_n 1, 1) := by decide +kernel
theorem d_PatternBook_PlainDecimal_writeTail_2 : decode b_PatternBook_PlainDecimal_writeTail 2 = .ok (.invokevirtual 27, 3) := by decide +kernel
theorem d_PatternBook_PlainDecimal_writeTail_5 : decode b_PatternBook_PlainDecimal_writeTail 5 = .ok (.aload_n 2, 1) := by decide +kernel
theorem d_PatternBook_PlainDecimal_writeTail_6 : decode b_PatternBook_PlainDecimal_writeTail 6 = .ok (.aload_n 0, 1) := by decide +kernel
theorem d_PatternBook_PlainDecimal_writeTail_7 : decode b_PatternBook_PlainDecimal_writeTail 7 = .ok (.getfield 31, 3) := by decide +kernel
theorem d_PatternBook_PlainDecimal_writeTail_10 : decode b_PatternBook_PlainDecimal_writeTail 10 = .ok (.invokevirtual 34, 3) := by decide +kernel
theorem d_PatternBook_PlainDecimal_writeTail_13 : decode b_PatternBook_PlainDecimal_writeTail 13 = .ok (.aload_n 1, 1) := by decide +kernel
theorem d_PatternBook_PlainDecimal_writeTail_14 : decode b_PatternBook_PlainDecimal_writeTail 14 = .ok (.aload_n 0, 1) := by decide +kernel
theorem d_PatternBook_PlainDecimal_writeTail_15 : decode b_PatternBook_PlainDecimal_writeTail 15 = .ok (.getfield 31, 3) := by decide +kernel
theorem d_PatternBook_PlainDecimal_writeTail_18 : decode b_PatternBook_PlainDecimal_writeTail 18 = .ok (.iconst 4, 1) := by decide +kernel
theorem d_PatternBook_PlainDecimal_writeTail_19 : decode b_PatternBook_PlainDecimal_writeTail 19 = .ok (.invokevirtual 50, 3) := by decide +kernel
theorem d_PatternBook_PlainDecimal_writeTail_22 : decode b_PatternBook_PlainDecimal_writeTail 22 = .ok (.l2i, 1) := by decide +kernel
theorem d_PatternBook_PlainDecimal_writeTail_23 : decode b_PatternBook_PlainDecimal_writeTail 23 = .ok (.ireturn, 1) := by decide +kernel
theorem d_PatternBook_Decimal_readUnsigned_0 : decode b_PatternBook_Decimal_readUnsigned 0 = .ok (.aload_n 1, 1) := by decide +kernel
theorem d_PatternBook_Decimal_readUnsigned_1 : decode b_PatternBook_Decimal_readUnsigned 1 = .ok (.aload_n 0, 1) := by decide +kernel
theorem d_PatternBook_Decimal_readUnsigned_2 : decode b_PatternBook_Decimal_readUnsigned 2 = .ok (.getfield 15, 3) := by decide +kernel
theorem d_PatternBook_Decimal_readUnsigned_5 : decode b_PatternBook_Decimal_readUnsigned 5 = .ok (.aload_n 0, 1) := by decide +kernel
theorem d_PatternBook_Decimal_readUnsigned_6 : decode b_PatternBook_Decimal_readUnsigned 6 = .ok (.getfield 18, 3) := by decide +kernel
theorem d_PatternBook_Decimal_readUnsigned_9 : decode b_PatternBook_Decimal_readUnsigned 9 = .ok (.invokevirtual 50, 3) := by decide +kernel
theorem d_PatternBook_Decimal_readUnsigned_12 : decode b_PatternBook_Decimal_readUnsigned 12 = .ok (.lstore_n 3, 1) := by decide +kernel
theorem d_PatternBook_Decimal_readUnsigned_13 : decode b_PatternBook_Decimal_readUnsigned 13 = .ok (.lload_n 3, 1) := by decide +kernel
theorem d_PatternBook_Decimal_readUnsigned_14 : decode b_PatternBook_Decimal_readUnsigned 14 = .ok (.aload_n 0, 1) := by decide +kernel
theorem d_PatternBook_Decimal_readUnsigned_15 : decode b_PatternBook_Decimal_readUnsigned 15 = .ok (.getfield 18, 3) := by decide +kernel
theorem d_PatternBook_Decimal_readUnsigned_18 : decode b_PatternBook_Decimal_readUnsigned 18 = .ok (.iconst 5, 1) := by decide +kernel
theorem d_PatternBook_Decimal_readUnsigned_19 : decode b_PatternBook_Decimal_readUnsigned 19 = .ok (.isub, 1) := by decide +kernel
theorem d_PatternBook_Decimal_readUnsigned_20 : decode b_PatternBook_Decimal_readUnsigned 20 = .ok (.lushr, 1) := by decide +kernel
theorem d_PatternBook_Decimal_readUnsigned_21 : decode b_PatternBook_Decimal_readUnsigned 21 = .ok (.lstore 5, 2) := by decide +kernel
theorem d_PatternBook_Decimal_readUnsigned_23 : decode b_PatternBook_Decimal_readUnsigned 23 = .ok (.lload 5, 2) := by decide +kernel
theorem d_PatternBook_Decimal_readUnsigned_25 : decode b_PatternBook_Decimal_readUnsigned 25 = .ok (.ldc2_w 54, 3) := by decide +kernel
theorem d_PatternBook_Decimal_readUnsigned_28 : decode b_PatternBook_Decimal_readUnsigned 28 = .ok (.lcmp, 1) := by decide +kernel
theorem d_PatternBook_Decimal_readUnsigned_29 : decode b_PatternBook_Decimal_readUnsigned 29 = .ok (.ifCond .ne 58, 3) := by decide +kernel
theorem d_PatternBook_Decimal_readUnsigned_32 : decode b_PatternBook_Decimal_readUnsigned 32 = .ok (.lload_n 3, 1) := by decide +kernel
theorem d_PatternBook_Decimal_readUnsigned_33 : decode b_PatternBook_Decimal_readUnsigned 33 = .ok (.aload_n 0, 1) := by decide +kernel
theorem d_PatternBook_Decimal_readUnsigned_34 : decode b_PatternBook_Decimal_readUnsigned 34 = .ok (.getfield 18, 3) := by decide +kernel
theorem d_PatternBook_Decimal_readUnsigned_37 : decode b_PatternBook_Decimal_readUnsigned 37 = .ok (.bipush 6, 2) := by decide +kernel
theorem d_PatternBook_Decimal_readUnsigned_39 : decode b_PatternBook_Decimal_readUnsigned 39 = .ok (.isub, 1) := by decide +kernel
theorem d_PatternBook_Decimal_readUnsigned_40 : decode b_PatternBook_Decimal_readUnsigned 40 = .ok (.lushr, 1) := by decide +kernel
theorem d_PatternBook_Decimal_readUnsigned_41 : decode b_PatternBook_Decimal_readUnsigned 41 = .ok (.lconst 1, 1) := by decide +kernel
theorem d_PatternBook_Decimal_readUnsigned_42 : decode b_PatternBook_Decimal_readUnsigned 42 = .ok (.land, 1) := by decide +kernel
theorem d_PatternBook_Decimal_readUnsigned_43 : decode b_PatternBook_Decimal_readUnsigned 43 = .ok (.lconst 1, 1) := by decide +kernel
theorem d_PatternBook_Decimal_readUnsigned_44 : decode b_PatternBook_Decimal_readUnsigned 44 = .ok (.lcmp, 1) := by decide +kernel
theorem d_PatternBook_Decimal_readUnsigned_45 : decode b_PatternBook_Decimal_readUnsigned 45 = .ok (.ifCond .ne 7, 3) := by decide +kernel
theorem d_PatternBook_Decimal_readUnsigned_48 : decode b_PatternBook_Decimal_readUnsigned 48 = .ok (.iconst 1, 1) := by decide +kernel
theorem d_PatternBook_Decimal_readUnsigned_49 : decode b_PatternBook_Decimal_readUnsigned 49 = .ok (.goto 4, 3) := by decide +kernel
theorem d_PatternBook_Decimal_readUnsigned_52 : decode b_PatternBook_Decimal_readUnsigned 52 = .ok (.iconst 0, 1) := by decide +kernel
theorem d_PatternBook_Decimal_readUnsigned_53 : decode b_PatternBook_Decimal_readUnsigned 53 = .ok (.istore 7, 2) := by decide +kernel
theorem d_PatternBook_Decimal_readUnsigned_55 : decode b_PatternBook_Decimal_readUnsigned 55 = .ok (.aload_n 0, 1) := by decide +kernel
theorem d_PatternBook_Decimal_readUnsigned_56 : decode b_PatternBook_Decimal_readUnsigned 56 = .ok (.iconst 0, 1) := by decide +kernel
theorem d_PatternBook_Decimal_readUnsigned_57 : decode b_PatternBook_Decimal_readUnsigned 57 = .ok (.aload_n 0, 1) := by decide +kernel
theorem d_PatternBook_Decimal_readUnsigned_58 : decode b_PatternBook_Decimal_readUnsigned 58 = .ok (.getfield 29, 3) := by decide +kernel
theorem d_PatternBook_Decimal_readUnsigned_61 : decode b_PatternBook_Decimal_readUnsigned 61 = .ok (.aload_n 1, 1) := by decide +kernel
theorem d_PatternBook_Decimal_readUnsigned_62 : decode b_PatternBook_Decimal_readUnsigned 62 = .ok (.aload_n 2, 1) := by decide +kernel
theorem d_PatternBook_Decimal_readUnsigned_63 : decode b_PatternBook_Decimal_readUnsigned 63 = .ok (.getfield 41, 3) := by decide +kernel
theorem d_PatternBook_Decimal_readUnsigned_66 : decode b_PatternBook_Decimal_readUnsigned 66 = .ok (.invokevirtual 56, 3) := by decide +kernel
theorem d_PatternBook_Decimal_readUnsigned_69 : decode b_PatternBook_Decimal_readUnsigned 69 = .ok (.aload_n 2, 1) := by decide +kernel
theorem d_PatternBook_Decimal_readUnsigned_70 : decode b_PatternBook_Decimal_readUnsigned 70 = .ok (.iload 7, 2) := by decide +kernel
theorem d_PatternBook_Decimal_readUnsigned_72 : decode b_PatternBook_Decimal_readUnsigned 72 = .ok (.ifCond .eq 7, 3) := by decide +kernel
theorem d_PatternBook_Decimal_readUnsigned_75 : decode b_PatternBook_Decimal_readUnsigned 75 = .ok (.iconst 3, 1) := by decide +kernel
theorem d_PatternBook_Decimal_readUnsigned_76 : decode b_PatternBook_Decimal_readUnsigned 76 = .ok (.goto 4, 3) := by decide +kernel
theorem d_PatternBook_Decimal_readUnsigned_79 : decode b_PatternBook_Decimal_readUnsigned 79 = .ok (.iconst 2, 1) := by decide +kernel
theorem d_PatternBook_Decimal_readUnsigned_80 : decode b_PatternBook_Decimal_readUnsigned 80 = .ok (.iconst 0, 1) := by decide +kernel
theorem d_PatternBook_Decimal_readUnsigned_81 : decode b_PatternBook_Decimal_readUnsigned 81 = .ok (.invokevirtual 60, 3) := by decide +kernel
theorem d_PatternBook_Decimal_readUnsigned_84 : decode b_PatternBook_Decimal_readUnsigned 84 = .ok (.goto 55, 3) := by decide +kernel
theorem d_PatternBook_Decimal_readUnsigned_87 : decode b_PatternBook_Decimal_readUnsigned 87 = .ok (.lload 5, 2) := by decide +kernel
theorem d_PatternBook_Decimal_readUnsigned_89 : decode b_PatternBook_Decimal_readUnsigned 89 = .ok (.ldc2_w 63, 3) := by decide +kernel
theorem d_PatternBook_Decimal_readUnsigned_92 : decode b_PatternBook_Decimal_readUnsigned 92 = .ok (.lcmp, 1) := by decide +kernel
theorem d_PatternBook_Decimal_readUnsigned_93 : decode b_PatternBook_Decimal_readUnsigned 93 = .ok (.ifCond .ne 12, 3) := by decide +kernel
theorem d_PatternBook_Decimal_readUnsigned_96 : decode b_PatternBook_Decimal_readUnsigned 96 = .ok (.aload_n 2, 1) := by decide +kernel
theorem d_PatternBook_Decimal_readUnsigned_97 : decode b_PatternBook_Decimal_readUnsigned 97 = .ok (.iconst 1, 1) := by decide +kernel
theorem d_PatternBook_Decimal_readUnsigned_98 : decode b_PatternBook_Decimal_readUnsigned 98 = .ok (.iconst 0, 1) := by decide +kernel
theorem d_PatternBook_Decimal_readUnsigned_99 : decode b_PatternBook_Decimal_readUnsigned 99 = .ok (.invokevirtual 60, 3) := by decide +kernel
theorem d_PatternBook_Decimal_readUnsigned_102 : decode b_PatternBook_Decimal_readUnsigned 102 = .ok (.goto 37, 3) := by decide +kernel
theorem d_PatternBook_Decimal_readUnsigned_105 : decode b_PatternBook_Decimal_readUnsigned 105 = .ok (.aload_n 0, 1) := by decide +kernel
theorem d_PatternBook_Decimal_readUnsigned_106 : decode b_PatternBook_Decimal_readUnsigned 106 = .ok (.aload_n 0, 1) := by decide +kernel
theorem d_PatternBook_Decimal_readUnsigned_107 : decode b_PatternBook_Decimal_readUnsigned 107 = .ok (.lload_n 3, 1) := by decide +kernel
theorem d_PatternBook_Decimal_readUnsigned_108 : decode b_PatternBook_Decimal_readUnsigned 108 = .ok (.invokevirtual 65, 3) := by decide +kernel
theorem d_PatternBook_Decimal_readUnsigned_111 : decode b_PatternBook_Decimal_readUnsigned 111 = .ok (.aload_n 0, 1) := by decide +kernel
theorem d_PatternBook_Decimal_readUnsigned_112 : decode b_PatternBook_Decimal_readUnsigned 112 = .ok (.getfield 25, 3) := by decide +kernel
theorem d_PatternBook_Decimal_readUnsigned_115 : decode b_PatternBook_Decimal_readUnsigned 115 = .ok (.aload_n 1, 1) := by decide +kernel
theorem d_PatternBook_Decimal_readUnsigned_116 : decode b_PatternBook_Decimal_readUnsigned 116 = .ok (.aload_n 2, 1) := by decide +kernel
theorem d_PatternBook_Decimal_readUnsigned_117 : decode b_PatternBook_Decimal_readUnsigned 117 = .ok (.getfield 41, 3) := by decide +kernel
theorem d_PatternBook_Decimal_readUnsigned_120 : decode b_PatternBook_Decimal_readUnsigned 120 = .ok (.invokevirtual 56, 3) := by decide +kernel
theorem d_PatternBook_Decimal_readUnsigned_123 : decode b_PatternBook_Decimal_readUnsigned 123 = .ok (.aload_n 2, 1) := by decide +kernel
theorem d_PatternBook_Decimal_readUnsigned_124 : decode b_PatternBook_Decimal_readUnsigned 124 = .ok (.iconst 0, 1) := by decide +kernel
theorem d_PatternBook_Decimal_readUnsigned_125 : decode b_PatternBook_Decimal_readUnsigned 125 = .ok (.aload_n 0, 1) := by decide +kernel
theorem d_PatternBook_Decimal_readUnsigned_126 : decode b_PatternBook_Decimal_readUnsigned 126 = .ok (.lload_n 3, 1) := by decide +kernel
theorem d_PatternBook_Decimal_readUnsigned_127 : decode b_PatternBook_Decimal_readUnsigned 127 = .ok (.invokevirtual 69, 3) := by decide +kernel
theorem d_PatternBook_Decimal_readUnsigned_130 : decode b_PatternBook_Decimal_readUnsigned 130 = .ok (.l2i, 1) := by decide +kernel
theorem d_PatternBook_Decimal_readUnsigned_131 : decode b_PatternBook_Decimal_readUnsigned 131 = .ok (.aload_n 0, 1) := by decide +kernel
theorem d_PatternBook_Decimal_readUnsigned_132 : decode b_PatternBook_Decimal_readUnsigned 132 = .ok (.getfield 73, 3) := by decide +kernel
theorem d_PatternBook_Decimal_readUnsigned_135 : decode b_PatternBook_Decimal_readUnsigned 135 = .ok (.iadd, 1) := by decide +kernel
theorem d_PatternBook_Decimal_readUnsigned_136 : decode b_PatternBook_Decimal_readUnsigned 136 = .ok (.invokevirtual 60, 3) := by decide +kernel
theorem d_PatternBook_Decimal_readUnsigned_139 : decode b_PatternBook_Decimal_readUnsigned 139 = .ok (.return_, 1) := by decide +kernel
theorem d_PatternBook_Decimal_writeUnsigned_0 : decode b_PatternBook_Decimal_writeUnsigned 0 = .ok (.aload_n 0, 1) := by decide +kernel
theorem d_PatternBook_Decimal_writeUnsigned_1 : decode b_PatternBook_Decimal_writeUnsigned 1 = .ok (.aload_n 1, 1) := by decide +kernel
theorem d_PatternBook_Decimal_writeUnsigned_2 : decode b_PatternBook_Decimal_writeUnsigned 2 = .ok (.getfield 41, 3) := by decide +kernel
theorem d_PatternBook_Decimal_writeUnsigned_5 : decode b_PatternBook_Decimal_writeUnsigned 5 = .ok (.aload_n 2, 1) := by decide +kernel
theorem d_PatternBook_Decimal_writeUnsigned_6 : decode b_PatternBook_Decimal_writeUnsigned 6 = .ok (.invokevirtual 76, 3) := by decide +kernel
theorem d_PatternBook_Decimal_writeUnsigned_9 : decode b_PatternBook_Decimal_writeUnsigned 9 = .ok (.istore_n 3, 1) := by decide +kernel
theorem d_PatternBook_Decimal_writeUnsigned_10 : decode b_PatternBook_Decimal_writeUnsigned 10 = .ok (.aload_n 2, 1) := by decide +kernel
theorem d_PatternBook_Decimal_writeUnsigned_11 : decode b_PatternBook_Decimal_writeUnsigned 11 = .ok (.aload_n 0, 1) := by decide +kernel
theorem d_PatternBook_Decimal_writeUnsigned_12 : decode b_PatternBook_Decimal_writeUnsigned 12 = .ok (.getfield 15, 3) := by decide +kernel
theorem d_PatternBook_Decimal_writeUnsigned_15 : decode b_PatternBook_Decimal_writeUnsigned 15 = .ok (.aload_n 0, 1) := by decide +kernel
theorem d_PatternBook_Decimal_writeUnsigned_16 : decode b_PatternBook_Decimal_writeUnsigned 16 = .ok (.aload_n 1, 1) := by decide +kernel
theorem d_PatternBook_Decimal_writeUnsigned_17 : decode b_PatternBook_Decimal_writeUnsigned 17 = .ok (.iload_n 3, 1) := by decide +kernel
theorem d_PatternBook_Decimal_writeUnsigned_18 : decode b_PatternBook_Decimal_writeUnsigned 18 = .ok (.invokevirtual 80, 3) := by decide +kernel
theorem d_PatternBook_Decimal_writeUnsigned_21 : decode b_PatternBook_Decimal_writeUnsigned 21 = .ok (.invokevirtual 84, 3) := by decide +kernel
theorem d_PatternBook_Decimal_writeUnsigned_24 : decode b_PatternBook_Decimal_writeUnsigned 24 = .ok (.return_, 1) := by decide +kernel
theorem d_PatternBook_DecletDecimal_fieldOf_0 : decode b_PatternBook_DecletDecimal_fieldOf 0 = .ok (.aload_n 0, 1) := by decide +kernel
theorem d_PatternBook_DecletDecimal_fieldOf_1 : decode b_PatternBook_DecletDecimal_fieldOf 1 = .ok (.lload_n 1, 1) := by decide +kernel
theorem d_PatternBook_DecletDecimal_fieldOf_2 : decode b_PatternBook_DecletDecimal_fieldOf 2 = .ok (.invokevirtual 25, 3) := by decide +kernel
theorem d_PatternBook_DecletDecimal_fieldOf_5 : decode b_PatternBook_DecletDecimal_fieldOf 5 = .ok (.ifCond .eq 18, 3) := by decide +kernel
theorem d_PatternBook_DecletDecimal_fieldOf_8 : decode b_PatternBook_DecletDecimal_fieldOf 8 = .ok (.lload_n 1, 1) := by decide +kernel
theorem d_PatternBook_DecletDecimal_fieldOf_9 : decode b_PatternBook_DecletDecimal_fieldOf 9 = .ok (.aload_n 0, 1) := by decide +kernel
theorem d_PatternBook_DecletDecimal_fieldOf_10 : decode b_PatternBook_DecletDecimal_fieldOf 10 = .ok (.getfield 13, 3) := by decide +kernel
theorem d_PatternBook_DecletDecimal_fieldOf_13 : decode b_PatternBook_DecletDecimal_fieldOf 13 = .ok (.iconst 1, 1) := by decide +kernel
theorem d_PatternBook_DecletDecimal_fieldOf_14 : decode b_PatternBook_DecletDecimal_fieldOf 14 = .ok (.iadd, 1) := by decide +kernel
theorem d_PatternBook_DecletDecimal_fieldOf_15 : decode b_PatternBook_DecletDecimal_fieldOf 15 = .ok (.lushr, 1) := by decide +kernel
theorem d_PatternBook_DecletDecimal_fieldOf_16 : decode b_PatternBook_DecletDecimal_fieldOf 16 = .ok (.ldc2_w 29, 3) := by decide +kernel
theorem d_PatternBook_DecletDecimal_fieldOf_19 : decode b_PatternBook_DecletDecimal_fieldOf 19 = .ok (.land, 1) := by decide +kernel
theorem d_PatternBook_DecletDecimal_fieldOf_20 : decode b_PatternBook_DecletDecimal_fieldOf 20 = .ok (.goto 11, 3) := by decide +kernel
theorem d_PatternBook_DecletDecimal_fieldOf_23 : decode b_PatternBook_DecletDecimal_fieldOf 23 = .ok (.lload_n 1, 1) := by decide +kernel
theorem d_PatternBook_DecletDecimal_fieldOf_24 : decode b_PatternBook_DecletDecimal_fieldOf 24 = .ok (.aload_n 0, 1) := by decide +kernel
theorem d_PatternBook_DecletDecimal_fieldOf_25 : decode b_PatternBook_DecletDecimal_fieldOf 25 = .ok (.getfield 13, 3) := by decide +kernel
theorem d_PatternBook_DecletDecimal_fieldOf_28 : decode b_PatternBook_DecletDecimal_fieldOf 28 = .ok (.iconst 3, 1) := by decide +kernel
theorem d_PatternBook_DecletDecimal_fieldOf_29 : decode b_PatternBook_DecletDecimal_fieldOf 29 = .ok (.iadd, 1) := by decide +kernel
theorem d_PatternBook_DecletDecimal_fieldOf_30 : decode b_PatternBook_DecletDecimal_fieldOf 30 = .ok (.lushr, 1) := by decide +kernel
theorem d_PatternBook_DecletDecimal_fieldOf_31 : decode b_PatternBook_DecletDecimal_fieldOf 31 = .ok (.lstore_n 3, 1) := by decide +kernel
theorem d_PatternBook_DecletDecimal_fieldOf_32 : decode b_PatternBook_DecletDecimal_fieldOf 32 = .ok (.lload_n 3, 1) := by decide +kernel
theorem d_PatternBook_DecletDecimal_fieldOf_33 : decode b_PatternBook_DecletDecimal_fieldOf 33 = .ok (.aload_n 0, 1) := by decide +kernel
theorem d_PatternBook_DecletDecimal_fieldOf_34 : decode b_PatternBook_DecletDecimal_fieldOf 34 = .ok (.getfield 13, 3) := by decide +kernel
theorem d_PatternBook_DecletDecimal_fieldOf_37 : decode b_PatternBook_DecletDecimal_fieldOf 37 = .ok (.lshl, 1) := by decide +kernel
theorem d_PatternBook_DecletDecimal_fieldOf_38 : decode b_PatternBook_DecletDecimal_fieldOf 38 = .ok (.lload_n 1, 1) := by decide +kernel
theorem d_PatternBook_DecletDecimal_fieldOf_39 : decode b_PatternBook_DecletDecimal_fieldOf 39 = .ok (.aload_n 0, 1) := by decide +kernel
theorem d_PatternBook_DecletDecimal_fieldOf_40 : decode b_PatternBook_DecletDecimal_fieldOf 40 = .ok (.getfield 13, 3) := by decide +kernel
theorem d_PatternBook_DecletDecimal_fieldOf_43 : decode b_PatternBook_DecletDecimal_fieldOf 43 = .ok (.invokestatic 31, 3) := by decide +kernel
theorem d_PatternBook_DecletDecimal_fieldOf_46 : decode b_PatternBook_DecletDecimal_fieldOf 46 = .ok (.land, 1) := by decide +kernel
theorem d_PatternBook_DecletDecimal_fieldOf_47 : decode b_PatternBook_DecletDecimal_fieldOf 47 = .ok (.lor, 1) := by decide +kernel
theorem d_PatternBook_DecletDecimal_fieldOf_48 : decode b_PatternBook_DecletDecimal_fieldOf 48 = .ok (.lreturn, 1) := by decide +kernel
theorem d_PatternBook_DecletDecimal_leadOf_0 : decode b_PatternBook_DecletDecimal_leadOf 0 = .ok (.aload_n 0, 1) := by decide +kernel
theorem d_PatternBook_DecletDecimal_leadOf_1 : decode b_PatternBook_DecletDecimal_leadOf 1 = .ok (.lload_n 1, 1) := by decide +kernel
theorem d_PatternBook_DecletDecimal_leadOf_2 : decode b_PatternBook_DecletDecimal_leadOf 2 = .ok (.invokevirtual 25, 3) := by decide +kernel
theorem d_PatternBook_DecletDecimal_leadOf_5 : decode b_PatternBook_DecletDecimal_leadOf 5 = .ok (.ifCond .eq 16, 3) := by decide +kernel
theorem d_PatternBook_DecletDecimal_leadOf_8 : decode b_PatternBook_DecletDecimal_leadOf 8 = .ok (.bipush 8, 2) := by decide +kernel
theorem d_PatternBook_DecletDecimal_leadOf_10 : decode b_PatternBook_DecletDecimal_leadOf 10 = .ok (.lload_n 1, 1) := by decide +kernel
theorem d_PatternBook_DecletDecimal_leadOf_11 : decode b_PatternBook_DecletDecimal_leadOf 11 = .ok (.aload_n 0, 1) := by decide +kernel
theorem d_PatternBook_DecletDecimal_leadOf_12 : decode b_PatternBook_DecletDecimal_leadOf 12 = .ok (.getfield 13, 3) := by decide +kernel
theorem d_PatternBook_DecletDecimal_leadOf_15 : decode b_PatternBook_DecletDecimal_leadOf 15 = .ok (.lushr, 1) := by decide +kernel
theorem d_PatternBook_DecletDecimal_leadOf_16 : decode b_PatternBook_DecletDecimal_leadOf 16 = .ok (.lconst 1, 1) := by decide +kernel
theorem d_PatternBook_DecletDecimal_leadOf_17 : decode b_PatternBook_DecletDecimal_leadOf 17 = .ok (.land, 1) := by decide +kernel
theorem d_PatternBook_DecletDecimal_leadOf_18 : decode b_PatternBook_DecletDecimal_leadOf 18 = .ok (.l2i, 1) := by decide +kernel
theorem d_PatternBook_DecletDecimal_leadOf_19 : decode b_PatternBook_DecletDecimal_leadOf 19 = .ok (.iadd, 1) := by decide +kernel
theorem d_PatternBook_DecletDecimal_leadOf_20 : decode b_PatternBook_DecletDecimal_leadOf 20 = .ok (.ireturn, 1) := by decide +kernel
theorem d_PatternBook_DecletDecimal_leadOf_21 : decode b_PatternBook_DecletDecimal_leadOf 21 = .ok (.lload_n 1, 1) := by decide +kernel
theorem d_PatternBook_DecletDecimal_leadOf_22 : decode b_PatternBook_DecletDecimal_leadOf 22 = .ok (.aload_n 0, 1) := by decide +kernel
theorem d_PatternBook_DecletDecimal_leadOf_23 : decode b_PatternBook_DecletDecimal_leadOf 23 = .ok (.getfield 13, 3) := by decide +kernel
theorem d_PatternBook_DecletDecimal_leadOf_26 : decode b_PatternBook_DecletDecimal_leadOf 26 = .ok (.lushr, 1) := by decide +kernel
theorem d_PatternBook_DecletDecimal_leadOf_27 : decode b_PatternBook_DecletDecimal_leadOf 27 = .ok (.ldc2_w 35, 3) := by decide +kernel
theorem d_PatternBook_DecletDecimal_leadOf_30 : decode b_PatternBook_DecletDecimal_leadOf 30 = .ok (.land, 1) := by decide +kernel
theorem d_PatternBook_DecletDecimal_leadOf_31 : decode b_PatternBook_DecletDecimal_leadOf 31 = .ok (.l2i, 1) := by decide +kernel
theorem d_PatternBook_DecletDecimal_leadOf_32 : decode b_PatternBook_DecletDecimal_leadOf 32 = .ok (.ireturn, 1) := by decide +kernel
theorem d_PatternBook_DecletDecimal_headOf_0 : decode b_PatternBook_DecletDecimal_headOf 0 = .ok (.lload_n 1, 1) := by decide +kernel
theorem d_PatternBook_DecletDecimal_headOf_1 : decode b_PatternBook_DecletDecimal_headOf 1 = .ok (.aload_n 0, 1) := by decide +kernel
theorem d_PatternBook_DecletDecimal_headOf_2 : decode b_PatternBook_DecletDecimal_headOf 2 = .ok (.getfield 13, 3) := by decide +kernel
theorem d_PatternBook_DecletDecimal_headOf_5 : decode b_PatternBook_DecletDecimal_headOf 5 = .ok (.lushr, 1) := by decide +kernel
theorem d_PatternBook_DecletDecimal_headOf_6 : decode b_PatternBook_DecletDecimal_headOf 6 = .ok (.lstore 4, 2) := by decide +kernel
theorem d_PatternBook_DecletDecimal_headOf_8 : decode b_PatternBook_DecletDecimal_headOf 8 = .ok (.iload_n 3, 1) := by decide +kernel
theorem d_PatternBook_DecletDecimal_headOf_9 : decode b_PatternBook_DecletDecimal_headOf 9 = .ok (.bipush 8, 2) := by decide +kernel
theorem d_PatternBook_DecletDecimal_headOf_11 : decode b_PatternBook_DecletDecimal_headOf 11 = .ok (.if_icmp .ge 13, 3) := by decide +kernel
theorem d_PatternBook_DecletDecimal_headOf_14 : decode b_PatternBook_DecletDecimal_headOf 14 = .ok (.lload 4, 2) := by decide +kernel
theorem d_PatternBook_DecletDecimal_headOf_16 : decode b_PatternBook_DecletDecimal_headOf 16 = .ok (.iconst 3, 1) := by decide +kernel
theorem d_PatternBook_DecletDecimal_headOf_17 : decode b_PatternBook_DecletDecimal_headOf 17 = .ok (.lshl, 1) := by decide +kernel
theorem d_PatternBook_DecletDecimal_headOf_18 : decode b_PatternBook_DecletDecimal_headOf 18 = .ok (.iload_n 3, 1) := by decide +kernel
theorem d_PatternBook_DecletDecimal_headOf_19 : decode b_PatternBook_DecletDecimal_headOf 19 = .ok (.i2l, 1) := by decide +kernel
theorem d_PatternBook_DecletDecimal_headOf_20 : decode b_PatternBook_DecletDecimal_headOf 20 = .ok (.lor, 1) := by decide +kernel
theorem d_PatternBook_DecletDecimal_headOf_21 : decode b_PatternBook_DecletDecimal_headOf 21 = .ok (.goto 16, 3) := by decide +kernel
theorem d_PatternBook_DecletDecimal_headOf_24 : decode b_PatternBook_DecletDecimal_headOf 24 = .ok (.ldc2_w 37, 3) := by decide +kernel
theorem d_PatternBook_DecletDecimal_headOf_27 : decode b_PatternBook_DecletDecimal_headOf 27 = .ok (.lload 4, 2) := by decide +kernel
theorem d_PatternBook_DecletDecimal_headOf_29 : decode b_PatternBook_DecletDecimal_headOf 29 = .ok (.iconst 1, 1) := by decide +kernel
theorem d_PatternBook_DecletDecimal_headOf_30 : decode b_PatternBook_DecletDecimal_headOf 30 = .ok (.lshl, 1) := by decide +kernel
theorem d_PatternBook_DecletDecimal_headOf_31 : decode b_PatternBook_DecletDecimal_headOf 31 = .ok (.lor, 1) := by decide +kernel
theorem d_PatternBook_DecletDecimal_headOf_32 : decode b_PatternBook_DecletDecimal_headOf 32 = .ok (.iload_n 3, 1) := by decide +kernel
theorem d_PatternBook_DecletDecimal_headOf_33 : decode b_PatternBook_DecletDecimal_headOf 33 = .ok (.iconst 1, 1) := by decide +kernel
theorem d_PatternBook_DecletDecimal_headOf_34 : decode b_PatternBook_DecletDecimal_headOf 34 = .ok (.iand, 1) := by decide +kernel
theorem d_PatternBook_DecletDecimal_headOf_35 : decode b_PatternBook_DecletDecimal_headOf 35 = .ok (.i2l, 1) := by decide +kernel
theorem d_PatternBook_DecletDecimal_headOf_36 : decode b_PatternBook_DecletDecimal_headOf 36 = .ok (.lor, 1) := by decide +kernel
theorem d_PatternBook_DecletDecimal_headOf_37 : decode b_PatternBook_DecletDecimal_headOf 37 = .ok (.lstore 6, 2) := by decide +kernel
theorem d_PatternBook_DecletDecimal_headOf_39 : decode b_PatternBook_DecletDecimal_headOf 39 = .ok (.lload 6, 2) := by decide +kernel
theorem d_PatternBook_DecletDecimal_headOf_41 : decode b_PatternBook_DecletDecimal_headOf 41 = .ok (.aload_n 0, 1) := by decide +kernel
theorem d_PatternBook_DecletDecimal_headOf_42 : decode b_PatternBook_DecletDecimal_headOf 42 = .ok (.getfield 13, 3) := by decide +kernel
theorem d_PatternBook_DecletDecimal_headOf_45 : decode b_PatternBook_DecletDecimal_headOf 45 = .ok (.lshl, 1) := by decide +kernel
theorem d_PatternBook_DecletDecimal_headOf_46 : decode b_PatternBook_DecletDecimal_headOf 46 = .ok (.lload_n 1, 1) := by decide +kernel
theorem d_PatternBook_DecletDecimal_headOf_47 : decode b_PatternBook_DecletDecimal_headOf 47 = .ok (.aload_n 0, 1) := by decide +kernel
theorem d_PatternBook_DecletDecimal_headOf_48 : decode b_PatternBook_DecletDecimal_headOf 48 = .ok (.getfield 13, 3) := by decide +kernel
theorem d_PatternBook_DecletDecimal_headOf_51 : decode b_PatternBook_DecletDecimal_headOf 51 = .ok (.invokestatic 31, 3) := by decide +kernel
theorem d_PatternBook_DecletDecimal_headOf_54 : decode b_PatternBook_DecletDecimal_headOf 54 = .ok (.land, 1) := by decide +kernel
theorem d_PatternBook_DecletDecimal_headOf_55 : decode b_PatternBook_DecletDecimal_headOf 55 = .ok (.lor, 1) := by decide +kernel
theorem d_PatternBook_DecletDecimal_headOf_56 : decode b_PatternBook_DecletDecimal_headOf 56 = .ok (.lreturn, 1) := by decide +kernel
theorem d_PatternBook_DecletDecimal_readBody_0 : decode b_PatternBook_DecletDecimal_readBody 0 = .ok (.aload 4, 2) := by decide +kernel
theorem d_PatternBook_DecletDecimal_readBody_2 : decode b_PatternBook_DecletDecimal_readBody 2 = .ok (.lconst 0, 1) := by decide +kernel
theorem d_PatternBook_DecletDecimal_readBody_3 : decode b_PatternBook_DecletDecimal_readBody 3 = .ok (.iload_n 1, 1) := by decide +kernel
theorem d_PatternBook_DecletDecimal_readBody_4 : decode b_PatternBook_DecletDecimal_readBody 4 = .ok (.i2l, 1) := by decide +kernel
theorem d_PatternBook_DecletDecimal_readBody_5 : decode b_PatternBook_DecletDecimal_readBody 5 = .ok (.invokevirtual 39, 3) := by decide +kernel
theorem d_PatternBook_DecletDecimal_readBody_8 : decode b_PatternBook_DecletDecimal_readBody 8 = .ok (.aload_n 0, 1) := by decide +kernel
theorem d_PatternBook_DecletDecimal_readBody_9 : decode b_PatternBook_DecletDecimal_readBody 9 = .ok (.getfield 43, 3) := by decide +kernel
theorem d_PatternBook_DecletDecimal_readBody_12 : decode b_PatternBook_DecletDecimal_readBody 12 = .ok (.iconst 1, 1) := by decide +kernel
theorem d_PatternBook_DecletDecimal_readBody_13 : decode b_PatternBook_DecletDecimal_readBody 13 = .ok (.isub, 1) := by decide +kernel
theorem d_PatternBook_DecletDecimal_readBody_14 : decode b_PatternBook_DecletDecimal_readBody 14 = .ok (.istore 5, 2) := by decide +kernel
theorem d_PatternBook_DecletDecimal_readBody_16 : decode b_PatternBook_DecletDecimal_readBody 16 = .ok (.iload 5, 2) := by decide +kernel
theorem d_PatternBook_DecletDecimal_readBody_18 : decode b_PatternBook_DecletDecimal_readBody 18 = .ok (.ifCond .lt 32, 3) := by decide +kernel
theorem d_PatternBook_DecletDecimal_readBody_21 : decode b_PatternBook_DecletDecimal_readBody 21 = .ok (.aload 4, 2) := by decide +kernel
theorem d_PatternBook_DecletDecimal_readBody_23 : decode b_PatternBook_DecletDecimal_readBody 23 = .ok (.sipush 1000, 3) := by decide +kernel
theorem d_PatternBook_DecletDecimal_readBody_26 : decode b_PatternBook_DecletDecimal_readBody 26 = .ok (.aload_n 3, 1) := by decide +kernel
theorem d_PatternBook_DecletDecimal_readBody_27 : decode b_PatternBook_DecletDecimal_readBody 27 = .ok (.bipush 10, 2) := by decide +kernel
theorem d_PatternBook_DecletDecimal_readBody_29 : decode b_PatternBook_DecletDecimal_readBody 29 = .ok (.iload 5, 2) := by decide +kernel
theorem d_PatternBook_DecletDecimal_readBody_31 : decode b_PatternBook_DecletDecimal_readBody 31 = .ok (.imul, 1) := by decide +kernel
theorem d_PatternBook_DecletDecimal_readBody_32 : decode b_PatternBook_DecletDecimal_readBody 32 = .ok (.bipush 10, 2) := by decide +kernel
theorem d_PatternBook_DecletDecimal_readBody_34 : decode b_PatternBook_DecletDecimal_readBody 34 = .ok (.invokevirtual 46, 3) := by decide +kernel
theorem d_PatternBook_DecletDecimal_readBody_37 : decode b_PatternBook_DecletDecimal_readBody 37 = .ok (.l2i, 1) := by decide +kernel
theorem d_PatternBook_DecletDecimal_readBody_38 : decode b_PatternBook_DecletDecimal_readBody 38 = .ok (.invokestatic 50, 3) := by decide +kernel
theorem d_PatternBook_DecletDecimal_readBody_41 : decode b_PatternBook_DecletDecimal_readBody 41 = .ok (.invokevirtual 56, 3) := by decide +kernel
theorem d_PatternBook_DecletDecimal_readBody_44 : decode b_PatternBook_DecletDecimal_readBody 44 = .ok (.iinc 5 (-1), 3) := by decide +kernel
theorem d_PatternBook_DecletDecimal_readBody_47 : decode b_PatternBook_DecletDecimal_readBody 47 = .ok (.goto (-31), 3) := by decide +kernel
theorem d_PatternBook_DecletDecimal_readBody_50 : decode b_PatternBook_DecletDecimal_readBody 50 = .ok (.return_, 1) := by decide +kernel
theorem d_PatternBook_DecletDecimal_writeTail_0 : decode b_PatternBook_DecletDecimal_writeTail 0 = .ok (.aload_n 0, 1) := by decide +kernel
theorem d_PatternBook_DecletDecimal_writeTail_1 : decode b_PatternBook_DecletDecimal_writeTail 1 = .ok (.getfield 21, 3) := by decide +kernel
theorem d_PatternBook_DecletDecimal_writeTail_4 : decode b_PatternBook_DecletDecimal_writeTail 4 = .ok (.aload_n 1, 1) := by decide +kernel
theorem d_PatternBook_DecletDecimal_writeTail_5 : decode b_PatternBook_DecletDecimal_writeTail 5 = .ok (.invokevirtual 60, 3) := by decide +kernel
theorem d_PatternBook_DecletDecimal_writeTail_8 : decode b_PatternBook_DecletDecimal_writeTail 8 = .ok (.iconst 0, 1) := by decide +kernel
theorem d_PatternBook_DecletDecimal_writeTail_9 : decode b_PatternBook_DecletDecimal_writeTail 9 = .ok (.istore_n 3, 1) := by decide +kernel
theorem d_PatternBook_DecletDecimal_writeTail_10 : decode b_PatternBook_DecletDecimal_writeTail 10 = .ok (.iload_n 3, 1) := by decide +kernel
theorem d_PatternBook_DecletDecimal_writeTail_11 : decode b_PatternBook_DecletDecimal_writeTail 11 = .ok (.aload_n 0, 1) := by decide +kernel
theorem d_PatternBook_DecletDecimal_writeTail_12 : decode b_PatternBook_DecletDecimal_writeTail 12 = .ok (.getfield 43, 3) := by decide +kernel
theorem d_PatternBook_DecletDecimal_writeTail_15 : decode b_PatternBook_DecletDecimal_writeTail 15 = .ok (.if_icmp .ge 28, 3) := by decide +kernel
theorem d_PatternBook_DecletDecimal_writeTail_18 : decode b_PatternBook_DecletDecimal_writeTail 18 = .ok (.aload_n 2, 1) := by decide +kernel
theorem d_PatternBook_DecletDecimal_writeTail_19 : decode b_PatternBook_DecletDecimal_writeTail 19 = .ok (.bipush 10, 2) := by decide +kernel
theorem d_PatternBook_DecletDecimal_writeTail_21 : decode b_PatternBook_DecletDecimal_writeTail 21 = .ok (.iload_n 3, 1) := by decide +kernel
theorem d_PatternBook_DecletDecimal_writeTail_22 : decode b_PatternBook_DecletDecimal_writeTail 22 = .ok (.imul, 1) := by decide +kernel
theorem d_PatternBook_DecletDecimal_writeTail_23 : decode b_PatternBook_DecletDecimal_writeTail 23 = .ok (.aload_n 0, 1) := by decide +kernel
theorem d_PatternBook_DecletDecimal_writeTail_24 : decode b_PatternBook_DecletDecimal_writeTail 24 = .ok (.getfield 21, 3) := by decide +kernel
theorem d_PatternBook_DecletDecimal_writeTail_27 : decode b_PatternBook_DecletDecimal_writeTail 27 = .ok (.invokevirtual 64, 3) := by decide +kernel
theorem d_PatternBook_DecletDecimal_writeTail_30 : decode b_PatternBook_DecletDecimal_writeTail 30 = .ok (.invokestatic 68, 3) := by decide +kernel
theorem d_PatternBook_DecletDecimal_writeTail_33 : decode b_PatternBook_DecletDecimal_writeTail 33 = .ok (.i2l, 1) := by decide +kernel
theorem d_PatternBook_DecletDecimal_writeTail_34 : decode b_PatternBook_DecletDecimal_writeTail 34 = .ok (.invokevirtual 71, 3) := by decide +kernel
theorem d_PatternBook_DecletDecimal_writeTail_37 : decode b_PatternBook_DecletDecimal_writeTail 37 = .ok (.iinc 3 1, 3) := by decide +kernel
theorem d_PatternBook_DecletDecimal_writeTail_40 : decode b_PatternBook_DecletDecimal_writeTail 40 = .ok (.goto (-30), 3) := by decide +kernel
theorem d_PatternBook_DecletDecimal_writeTail_43 : decode b_PatternBook_DecletDecimal_writeTail 43 = .ok (.aload_n 0, 1) := by decide +kernel
theorem d_PatternBook_DecletDecimal_writeTail_44 : decode b_PatternBook_DecletDecimal_writeTail 44 = .ok (.getfield 21, 3) := by decide +kernel
theorem d_PatternBook_DecletDecimal_writeTail_47 : decode b_PatternBook_DecletDecimal_writeTail 47 = .ok (.iconst 0, 1) := by decide +kernel
theorem d_PatternBook_DecletDecimal_writeTail_48 : decode b_PatternBook_DecletDecimal_writeTail 48 = .ok (.invokevirtual 75, 3) := by decide +kernel
theorem d_PatternBook_DecletDecimal_writeTail_51 : decode b_PatternBook_DecletDecimal_writeTail 51 = .ok (.l2i, 1) := by decide +kernel
theorem d_PatternBook_DecletDecimal_writeTail_52 : decode b_PatternBook_DecletDecimal_writeTail 52 = .ok (.ireturn, 1) := by decide +kernel
