theorem d_PatternBook_Format_init_0 : decode b_PatternBook_Format_init 0 = .ok (.aload_n 0, 1) := by decide +kernel
theorem d_PatternBook_Format_init_1 : decode b_PatternBook_Format_init 1 = .ok (.invokespecial 3, 3) := by decide +kernel
theorem d_PatternBook_Format_init_4 : decode b_PatternBook_Format_init 4 = .ok (.aload_n 0, 1) := by decide +kernel
theorem d_PatternBook_Format_init_5 : decode b_PatternBook_Format_init 5 = .ok (.iload_n 1, 1) := by decide +kernel
theorem d_PatternBook_Format_init_6 : decode b_PatternBook_Format_init 6 = .ok (.putfield 9, 3) := by decide +kernel
theorem d_PatternBook_Format_init_9 : decode b_PatternBook_Format_init 9 = .ok (.aload_n 0, 1) := by decide +kernel
theorem d_PatternBook_Format_init_10 : decode b_PatternBook_Format_init 10 = .ok (.iload_n 2, 1) := by decide +kernel
theorem d_PatternBook_Format_init_11 : decode b_PatternBook_Format_init 11 = .ok (.putfield 15, 3) := by decide +kernel
theorem d_PatternBook_Format_init_14 : decode b_PatternBook_Format_init 14 = .ok (.aload_n 0, 1) := by decide +kernel
theorem d_PatternBook_Format_init_15 : decode b_PatternBook_Format_init 15 = .ok (.iconst 2, 1) := by decide +kernel
theorem d_PatternBook_Format_init_16 : decode b_PatternBook_Format_init 16 = .ok (.iload_n 3, 1) := by decide +kernel
theorem d_PatternBook_Format_init_17 : decode b_PatternBook_Format_init 17 = .ok (.isub, 1) := by decide +kernel
theorem d_PatternBook_Format_init_18 : decode b_PatternBook_Format_init 18 = .ok (.iload_n 2, 1) := by decide +kernel
theorem d_PatternBook_Format_init_19 : decode b_PatternBook_Format_init 19 = .ok (.isub, 1) := by decide +kernel
theorem d_PatternBook_Format_init_20 : decode b_PatternBook_Format_init 20 = .ok (.putfield 18, 3) := by decide +kernel
theorem d_PatternBook_Format_init_23 : decode b_PatternBook_Format_init 23 = .ok (.aload_n 0, 1) := by decide +kernel
theorem d_PatternBook_Format_init_24 : decode b_PatternBook_Format_init 24 = .ok (.iload_n 3, 1) := by decide +kernel
theorem d_PatternBook_Format_init_25 : decode b_PatternBook_Format_init 25 = .ok (.iconst 1, 1) := by decide +kernel
theorem d_PatternBook_Format_init_26 : decode b_PatternBook_Format_init 26 = .ok (.iadd, 1) := by decide +kernel
theorem d_PatternBook_Format_init_27 : decode b_PatternBook_Format_init 27 = .ok (.iload_n 2, 1) := by decide +kernel
theorem d_PatternBook_Format_init_28 : decode b_PatternBook_Format_init 28 = .ok (.isub, 1) := by decide +kernel
theorem d_PatternBook_Format_init_29 : decode b_PatternBook_Format_init 29 = .ok (.putfield 21, 3) := by decide +kernel
theorem d_PatternBook_Format_init_32 : decode b_PatternBook_Format_init 32 = .ok (.return_, 1) := by decide +kernel
theorem d_PatternBook_Binary_init_0 : decode b_PatternBook_Binary_init 0 = .ok (.aload_n 0, 1) := by decide +kernel
theorem d_PatternBook_Binary_init_1 : decode b_PatternBook_Binary_init 1 = .ok (.iload_n 1, 1) := by decide +kernel
theorem d_PatternBook_Binary_init_2 : decode b_PatternBook_Binary_init 2 = .ok (.iload_n 2, 1) := by decide +kernel
theorem d_PatternBook_Binary_init_3 : decode b_PatternBook_Binary_init 3 = .ok (.iload_n 3, 1) := by decide +kernel
theorem d_PatternBook_Binary_init_4 : decode b_PatternBook_Binary_init 4 = .ok (.invokespecial 3, 3) := by decide +kernel
theorem d_PatternBook_Binary_init_7 : decode b_PatternBook_Binary_init 7 = .ok (.aload_n 0, 1) := by decide +kernel
theorem d_PatternBook_Binary_init_8 : decode b_PatternBook_Binary_init 8 = .ok (.iload_n 2, 1) := by decide +kernel
theorem d_PatternBook_Binary_init_9 : decode b_PatternBook_Binary_init 9 = .ok (.iconst 1, 1) := by decide +kernel
theorem d_PatternBook_Binary_init_10 : decode b_PatternBook_Binary_init 10 = .ok (.isub, 1) := by decide +kernel
theorem d_PatternBook_Binary_init_11 : decode b_PatternBook_Binary_init 11 = .ok (.putfield 9, 3) := by decide +kernel
theorem d_PatternBook_Binary_init_14 : decode b_PatternBook_Binary_init 14 = .ok (.aload_n 0, 1) := by decide +kernel
theorem d_PatternBook_Binary_init_15 : decode b_PatternBook_Binary_init 15 = .ok (.iload_n 1, 1) := by decide +kernel
theorem d_PatternBook_Binary_init_16 : decode b_PatternBook_Binary_init 16 = .ok (.iload_n 2, 1) := by decide +kernel
theorem d_PatternBook_Binary_init_17 : decode b_PatternBook_Binary_init 17 = .ok (.isub, 1) := by decide +kernel
theorem d_PatternBook_Binary_init_18 : decode b_PatternBook_Binary_init 18 = .ok (.putfield 15, 3) := by decide +kernel
theorem d_PatternBook_Binary_init_21 : decode b_PatternBook_Binary_init 21 = .ok (.aload_n 0, 1) := by decide +kernel
theorem d_PatternBook_Binary_init_22 : decode b_PatternBook_Binary_init 22 = .ok (.aload_n 0, 1) := by decide +kernel
theorem d_PatternBook_Binary_init_23 : decode b_PatternBook_Binary_init 23 = .ok (.getfield 15, 3) := by decide +kernel
theorem d_PatternBook_Binary_init_26 : decode b_PatternBook_Binary_init 26 = .ok (.invokestatic 18, 3) := by decide +kernel
theorem d_PatternBook_Binary_init_29 : decode b_PatternBook_Binary_init 29 = .ok (.putfield 24, 3) := by decide +kernel
theorem d_PatternBook_Binary_init_32 : decode b_PatternBook_Binary_init 32 = .ok (.return_, 1) := by decide +kernel
theorem d_PatternBook_Decimal_nines_0 : decode b_PatternBook_Decimal_nines 0 = .ok (.new 32, 3) := by decide +kernel
theorem d_PatternBook_Decimal_nines_3 : decode b_PatternBook_Decimal_nines 3 = .ok (.dup, 1) := by decide +kernel
theorem d_PatternBook_Decimal_nines_4 : decode b_PatternBook_Decimal_nines 4 = .ok (.invokespecial 34, 3) := by decide +kernel
theorem d_PatternBook_Decimal_nines_7 : decode b_PatternBook_Decimal_nines 7 = .ok (.astore_n 1, 1) := by decide +kernel
theorem d_PatternBook_Decimal_nines_8 : decode b_PatternBook_Decimal_nines 8 = .ok (.iconst 0, 1) := by decide +kernel
theorem d_PatternBook_Decimal_nines_9 : decode b_PatternBook_Decimal_nines 9 = .ok (.istore_n 2, 1) := by decide +kernel
theorem d_PatternBook_Decimal_nines_10 : decode b_PatternBook_Decimal_nines 10 = .ok (.iload_n 2, 1) := by decide +kernel
theorem d_PatternBook_Decimal_nines_11 : decode b_PatternBook_Decimal_nines 11 = .ok (.iload_n 0, 1) := by decide +kernel
theorem d_PatternBook_Decimal_nines_12 : decode b_PatternBook_Decimal_nines 12 = .ok (.if_icmp .ge 17, 3) := by decide +kernel
theorem d_PatternBook_Decimal_nines_15 : decode b_PatternBook_Decimal_nines 15 = .ok (.aload_n 1, 1) := by decide +kernel
theorem d_PatternBook_Decimal_nines_16 : decode b_PatternBook_Decimal_nines 16 = .ok (.bipush 10, 2) := by decide +kernel
theorem d_PatternBook_Decimal_nines_18 : decode b_PatternBook_Decimal_nines 18 = .ok (.bipush 9, 2) := by decide +kernel
theorem d_PatternBook_Decimal_nines_20 : decode b_PatternBook_Decimal_nines 20 = .ok (.invokevirtual 37, 3) := by decide +kernel
theorem d_PatternBook_Decimal_nines_23 : decode b_PatternBook_Decimal_nines 23 = .ok (.iinc 2 1, 3) := by decide +kernel
theorem d_PatternBook_Decimal_nines_26 : decode b_PatternBook_Decimal_nines 26 = .ok (.goto (-16), 3) := by decide +kernel
theorem d_PatternBook_Decimal_nines_29 : decode b_PatternBook_Decimal_nines 29 = .ok (.aload_n 1, 1) := by decide +kernel
theorem d_PatternBook_Decimal_nines_30 : decode b_PatternBook_Decimal_nines 30 = .ok (.areturn, 1) := by decide +kernel
theorem d_PatternBook_Decimal_init_0 : decode b_PatternBook_Decimal_init 0 = .ok (.aload_n 0, 1) := by decide +kernel
theorem d_PatternBook_Decimal_init_1 : decode b_PatternBook_Decimal_init 1 = .ok (.iload_n 1, 1) := by decide +kernel
theorem d_PatternBook_Decimal_init_2 : decode b_PatternBook_Decimal_init 2 = .ok (.iload_n 2, 1) := by decide +kernel
theorem d_PatternBook_Decimal_init_3 : decode b_PatternBook_Decimal_init 3 = .ok (.iload_n 3, 1) := by decide +kernel
theorem d_PatternBook_Decimal_init_4 : decode b_PatternBook_Decimal_init 4 = .ok (.invokespecial 3, 3) := by decide +kernel
theorem d_PatternBook_Decimal_init_7 : decode b_PatternBook_Decimal_init 7 = .ok (.aload_n 0, 1) := by decide +kernel
theorem d_PatternBook_Decimal_init_8 : decode b_PatternBook_Decimal_init 8 = .ok (.iload_n 2, 1) := by decide +kernel
theorem d_PatternBook_Decimal_init_9 : decode b_PatternBook_Decimal_init 9 = .ok (.iconst 1, 1) := by decide +kernel
theorem d_PatternBook_Decimal_init_10 : decode b_PatternBook_Decimal_init 10 = .ok (.isub, 1) := by decide +kernel
theorem d_PatternBook_Decimal_init_11 : decode b_PatternBook_Decimal_init 11 = .ok (.iconst 3, 1) := by decide +kernel
theorem d_PatternBook_Decimal_init_12 : decode b_PatternBook_Decimal_init 12 = .ok (.idiv, 1) := by decide +kernel
theorem d_PatternBook_Decimal_init_13 : decode b_PatternBook_Decimal_init 13 = .ok (.putfield 9, 3) := by decide +kernel
theorem d_PatternBook_Decimal_init_16 : decode b_PatternBook_Decimal_init 16 = .ok (.aload_n 0, 1) := by decide +kernel
theorem d_PatternBook_Decimal_init_17 : decode b_PatternBook_Decimal_init 17 = .ok (.bipush 10, 2) := by decide +kernel
theorem d_PatternBook_Decimal_init_19 : decode b_PatternBook_Decimal_init 19 = .ok (.aload_n 0, 1) := by decide +kernel
theorem d_PatternBook_Decimal_init_20 : decode b_PatternBook_Decimal_init 20 = .ok (.getfield 9, 3) := by decide +kernel
theorem d_PatternBook_Decimal_init_23 : decode b_PatternBook_Decimal_init 23 = .ok (.imul, 1) := by decide +kernel
theorem d_PatternBook_Decimal_init_24 : decode b_PatternBook_Decimal_init 24 = .ok (.putfield 15, 3) := by decide +kernel
theorem d_PatternBook_Decimal_init_27 : decode b_PatternBook_Decimal_init 27 = .ok (.aload_n 0, 1) := by decide +kernel
theorem d_PatternBook_Decimal_init_28 : decode b_PatternBook_Decimal_init 28 = .ok (.iload_n 1, 1) := by decide +kernel
theorem d_PatternBook_Decimal_init_29 : decode b_PatternBook_Decimal_init 29 = .ok (.bipush 16, 2) := by decide +kernel
theorem d_PatternBook_Decimal_init_31 : decode b_PatternBook_Decimal_init 31 = .ok (.idiv, 1) := by decide +kernel
theorem d_PatternBook_Decimal_init_32 : decode b_PatternBook_Decimal_init 32 = .ok (.bipush 9, 2) := by decide +kernel
theorem d_PatternBook_Decimal_init_34 : decode b_PatternBook_Decimal_init 34 = .ok (.iadd, 1) := by decide +kernel
theorem d_PatternBook_Decimal_init_35 : decode b_PatternBook_Decimal_init 35 = .ok (.putfield 18, 3) := by decide +kernel
theorem d_PatternBook_Decimal_init_38 : decode b_PatternBook_Decimal_init 38 = .ok (.aload_n 0, 1) := by decide +kernel
theorem d_PatternBook_Decimal_init_39 : decode b_PatternBook_Decimal_init 39 = .ok (.iload_n 2, 1) := by decide +kernel
theorem d_PatternBook_Decimal_init_40 : decode b_PatternBook_Decimal_init 40 = .ok (.invokestatic 21, 3) := by decide +kernel
theorem d_PatternBook_Decimal_init_43 : decode b_PatternBook_Decimal_init 43 = .ok (.putfield 25, 3) := by decide +kernel
theorem d_PatternBook_Decimal_init_46 : decode b_PatternBook_Decimal_init 46 = .ok (.aload_n 0, 1) := by decide +kernel
theorem d_PatternBook_Decimal_init_47 : decode b_PatternBook_Decimal_init 47 = .ok (.iload_n 2, 1) := by decide +kernel
theorem d_PatternBook_Decimal_init_48 : decode b_PatternBook_Decimal_init 48 = .ok (.iconst 1, 1) := by decide +kernel
theorem d_PatternBook_Decimal_init_49 : decode b_PatternBook_Decimal_init 49 = .ok (.isub, 1) := by decide +kernel
theorem d_PatternBook_Decimal_init_50 : decode b_PatternBook_Decimal_init 50 = .ok (.invokestatic 21, 3) := by decide +kernel
theorem d_PatternBook_Decimal_init_53 : decode b_PatternBook_Decimal_init 53 = .ok (.putfield 29, 3) := by decide +kernel
theorem d_PatternBook_Decimal_init_56 : decode b_PatternBook_Decimal_init 56 = .ok (.return_, 1) := by decide +kernel
theorem d_PatternBook_PlainDecimal_init_0 : decode b_PatternBook_PlainDecimal_init 0 = .ok (.aload_n 0, 1) := by decide +kernel
theorem d_PatternBook_PlainDecimal_init_1 : decode b_PatternBook_PlainDecimal_init 1 = .ok (.iload_n 1, 1) := by decide +kernel
theorem d_PatternBook_PlainDecimal_init_2 : decode b_PatternBook_PlainDecimal_init 2 = .ok (.iload_n 2, 1) := by decide +kernel
theorem d_PatternBook_PlainDecimal_init_3 : decode b_PatternBook_PlainDecimal_init 3 = .ok (.iload_n 3, 1) := by decide +kernel
theorem d_PatternBook_PlainDecimal_init_4 : decode b_PatternBook_PlainDecimal_init 4 = .ok (.invokespecial 1, 3) := by decide +kernel
theorem d_PatternBook_PlainDecimal_init_7 : decode b_PatternBook_PlainDecimal_init 7 = .ok (.return_, 1) := by decide +kernel
theorem d_PatternBook_DecletDecimal_init_0 : decode b_PatternBook_DecletDecimal_init 0 = .ok (.aload_n 0, 1) := by decide +kernel
theorem d_PatternBook_DecletDecimal_init_1 : decode b_PatternBook_DecletDecimal_init 1 = .ok (.iload_n 1, 1) := by decide +kernel
theorem d_PatternBook_DecletDecimal_init_2 : decode b_PatternBook_DecletDecimal_init 2 = .ok (.iload_n 2, 1) := by decide +kernel
theorem d_PatternBook_DecletDecimal_init_3 : decode b_PatternBook_DecletDecimal_init 3 = .ok (.iload_n 3, 1) := by decide +kernel
theorem d_PatternBook_DecletDecimal_init_4 : decode b_PatternBook_DecletDecimal_init 4 = .ok (.invokespecial 1, 3) := by decide +kernel
theorem d_PatternBook_DecletDecimal_init_7 : decode b_PatternBook_DecletDecimal_init 7 = .ok (.aload_n 0, 1) := by decide +kernel
theorem d_PatternBook_DecletDecimal_init_8 : decode b_PatternBook_DecletDecimal_init 8 = .ok (.aload_n 0, 1) := by decide +kernel
theorem d_PatternBook_DecletDecimal_init_9 : decode b_PatternBook_DecletDecimal_init 9 = .ok (.getfield 7, 3) := by decide +kernel
theorem d_PatternBook_DecletDecimal_init_12 : decode b_PatternBook_DecletDecimal_init 12 = .ok (.iconst 5, 1) := by decide +kernel
theorem d_PatternBook_DecletDecimal_init_13 : decode b_PatternBook_DecletDecimal_init 13 = .ok (.isub, 1) := by decide +kernel
theorem d_PatternBook_DecletDecimal_init_14 : decode b_PatternBook_DecletDecimal_init 14 = .ok (.putfield 13, 3) := by decide +kernel
theorem d_PatternBook_DecletDecimal_init_17 : decode b_PatternBook_DecletDecimal_init 17 = .ok (.aload_n 0, 1) := by decide +kernel
theorem d_PatternBook_DecletDecimal_init_18 : decode b_PatternBook_DecletDecimal_init 18 = .ok (.new 16, 3) := by decide +kernel
theorem d_PatternBook_DecletDecimal_init_21 : decode b_PatternBook_DecletDecimal_init 21 = .ok (.dup, 1) := by decide +kernel
theorem d_PatternBook_DecletDecimal_init_22 : decode b_PatternBook_DecletDecimal_init 22 = .ok (.invokespecial 18, 3) := by decide +kernel
theorem d_PatternBook_DecletDecimal_init_25 : decode b_PatternBook_DecletDecimal_init 25 = .ok (.putfield 21, 3) := by decide +kernel
theorem d_PatternBook_DecletDecimal_init_28 : decode b_PatternBook_DecletDecimal_init 28 = .ok (.return_, 1) := by decide +kernel
theorem d_PatternBook_init_0 : decode b_PatternBook_init 0 = .ok (.aload_n 0, 1) := by decide +kernel
theorem d_PatternBook_init_1 : decode b_PatternBook_init 1 = .ok (.invokespecial 1, 3) := by decide +kernel
theorem d_PatternBook_init_4 : decode b_PatternBook_init 4 = .ok (.aload_n 0, 1) := by decide +kernel
theorem d_PatternBook_init_5 : decode b_PatternBook_init 5 = .ok (.bipush 10, 2) := by decide +kernel
theorem d_PatternBook_init_7 : decode b_PatternBook_init 7 = .ok (.anewarray 7, 3) := by decide +kernel
theorem d_PatternBook_init_10 : decode b_PatternBook_init 10 = .ok (.dup, 1) := by decide +kernel
theorem d_PatternBook_init_11 : decode b_PatternBook_init 11 = .ok (.iconst 0, 1) := by decide +kernel
theorem d_PatternBook_init_12 : decode b_PatternBook_init 12 = .ok (.new 9, 3) := by decide +kernel
theorem d_PatternBook_init_15 : decode b_PatternBook_init 15 = .ok (.dup, 1) := by decide +kernel
theorem d_PatternBook_init_16 : decode b_PatternBook_init 16 = .ok (.bipush 16, 2) := by decide +kernel
theorem d_PatternBook_init_18 : decode b_PatternBook_init 18 = .ok (.bipush 11, 2) := by decide +kernel
theorem d_PatternBook_init_20 : decode b_PatternBook_init 20 = .ok (.bipush 15, 2) := by decide +kernel
theorem d_PatternBook_init_22 : decode b_PatternBook_init 22 = .ok (.invokespecial 11, 3) := by decide +kernel
theorem d_PatternBook_init_25 : decode b_PatternBook_init 25 = .ok (.aastore, 1) := by decide +kernel
theorem d_PatternBook_init_26 : decode b_PatternBook_init 26 = .ok (.dup, 1) := by decide +kernel
theorem d_PatternBook_init_27 : decode b_PatternBook_init 27 = .ok (.iconst 1, 1) := by decide +kernel
theorem d_PatternBook_init_28 : decode b_PatternBook_init 28 = .ok (.new 9, 3) := by decide +kernel
theorem d_PatternBook_init_31 : decode b_PatternBook_init 31 = .ok (.dup, 1) := by decide +kernel
theorem d_PatternBook_init_32 : decode b_PatternBook_init 32 = .ok (.bipush 32, 2) := by decide +kernel
theorem d_PatternBook_init_34 : decode b_PatternBook_init 34 = .ok (.bipush 24, 2) := by decide +kernel
theorem d_PatternBook_init_36 : decode b_PatternBook_init 36 = .ok (.bipush 127, 2) := by decide +kernel
theorem d_PatternBook_init_38 : decode b_PatternBook_init 38 = .ok (.invokespecial 11, 3) := by decide +kernel
theorem d_PatternBook_init_41 : decode b_PatternBook_init 41 = .ok (.aastore, 1) := by decide +kernel
theorem d_PatternBook_init_42 : decode b_PatternBook_init 42 = .ok (.dup, 1) := by decide +kernel
theorem d_PatternBook_init_43 : decode b_PatternBook_init 43 = .ok (.iconst 2, 1) := by decide +kernel
theorem d_PatternBook_init_44 : decode b_PatternBook_init 44 = .ok (.new 9, 3) := by decide +kernel
theorem d_PatternBook_init_47 : decode b_PatternBook_init 47 = .ok (.dup, 1) := by decide +kernel
theorem d_PatternBook_init_48 : decode b_PatternBook_init 48 = .ok (.bipush 64, 2) := by decide +kernel
theorem d_PatternBook_init_50 : decode b_PatternBook_init 50 = .ok (.bipush 53, 2) := by decide +kernel
theorem d_PatternBook_init_52 : decode b_PatternBook_init 52 = .ok (.sipush 1023, 3) := by decide +kernel
theorem d_PatternBook_init_55 : decode b_PatternBook_init 55 = .ok (.invokespecial 11, 3) := by decide +kernel
theorem d_PatternBook_init_58 : decode b_PatternBook_init 58 = .ok (.aastore, 1) := by decide +kernel
theorem d_PatternBook_init_59 : decode b_PatternBook_init 59 = .ok (.dup, 1) := by decide +kernel
theorem d_PatternBook_init_60 : decode b_PatternBook_init 60 = .ok (.iconst 3, 1) := by decide +kernel
theorem d_PatternBook_init_61 : decode b_PatternBook_init 61 = .ok (.new 9, 3) := by decide +kernel
theorem d_PatternBook_init_64 : decode b_PatternBook_init 64 = .ok (.dup, 1) := by decide +kernel
theorem d_PatternBook_init_65 : decode b_PatternBook_init 65 = .ok (.sipush 128, 3) := by decide +kernel
theorem d_PatternBook_init_68 : decode b_PatternBook_init 68 = .ok (.bipush 113, 2) := by decide +kernel
theorem d_PatternBook_init_70 : decode b_PatternBook_init 70 = .ok (.sipush 16383, 3) := by decide +kernel
theorem d_PatternBook_init_73 : decode b_PatternBook_init 73 = .ok (.invokespecial 11, 3) := by decide +kernel
theorem d_PatternBook_init_76 : decode b_PatternBook_init 76 = .ok (.aastore, 1) := by decide +kernel
theorem d_PatternBook_init_77 : decode b_PatternBook_init 77 = .ok (.dup, 1) := by decide +kernel
theorem d_PatternBook_init_78 : decode b_PatternBook_init 78 = .ok (.iconst 4, 1) := by decide +kernel
theorem d_PatternBook_init_79 : decode b_PatternBook_init 79 = .ok (.new 14, 3) := by decide +kernel
theorem d_PatternBook_init_82 : decode b_PatternBook_init 82 = .ok (.dup, 1) := by decide +kernel
theorem d_PatternBook_init_83 : decode b_PatternBook_init 83 = .ok (.bipush 32, 2) := by decide +kernel
theorem d_PatternBook_init_85 : decode b_PatternBook_init 85 = .ok (.bipush 7, 2) := by decide +kernel
theorem d_PatternBook_init_87 : decode b_PatternBook_init 87 = .ok (.bipush 96, 2) := by decide +kernel
theorem d_PatternBook_init_89 : decode b_PatternBook_init 89 = .ok (.invokespecial 16, 3) := by decide +kernel
theorem d_PatternBook_init_92 : decode b_PatternBook_init 92 = .ok (.aastore, 1) := by decide +kernel
theorem d_PatternBook_init_93 : decode b_PatternBook_init 93 = .ok (.dup, 1) := by decide +kernel
theorem d_PatternBook_init_94 : decode b_PatternBook_init 94 = .ok (.iconst 5, 1) := by decide +kernel
theorem d_PatternBook_init_95 : decode b_PatternBook_init 95 = .ok (.new 14, 3) := by decide +kernel
theorem d_PatternBook_init_98 : decode b_PatternBook_init 98 = .ok (.dup, 1) := by decide +kernel
theorem d_PatternBook_init_99 : decode b_PatternBook_init 99 = .ok (.bipush 64, 2) := by decide +kernel
theorem d_PatternBook_init_101 : decode b_PatternBook_init 101 = .ok (.bipush 16, 2) := by decide +kernel
theorem d_PatternBook_init_103 : decode b_PatternBook_init 103 = .ok (.sipush 384, 3) := by decide +kernel
theorem d_PatternBook_init_106 : decode b_PatternBook_init 106 = .ok (.invokespecial 16, 3) := by decide +kernel
theorem d_PatternBook_init_109 : decode b_PatternBook_init 109 = .ok (.aastore, 1) := by decide +kernel
theorem d_PatternBook_init_110 : decode b_PatternBook_init 110 = .ok (.dup, 1) := by decide +kernel
theorem d_PatternBook_init_111 : decode b_PatternBook_init 111 = .ok (.bipush 6, 2) := by decide +kernel
theorem d_PatternBook_init_113 : decode b_PatternBook_init 113 = .ok (.new 14, 3) := by decide +kernel
theorem d_PatternBook_init_116 : decode b_PatternBook_init 116 = .ok (.dup, 1) := by decide +kernel
theorem d_PatternBook_init_117 : decode b_PatternBook_init 117 = .ok (.sipush 128, 3) := by decide +kernel
theorem d_PatternBook_init_120 : decode b_PatternBook_init 120 = .ok (.bipush 34, 2) := by decide +kernel
theorem d_PatternBook_init_122 : decode b_PatternBook_init 122 = .ok (.sipush 6144, 3) := by decide +kernel
theorem d_PatternBook_init_125 : decode b_PatternBook_init 125 = .ok (.invokespecial 16, 3) := by decide +kernel
theorem d_PatternBook_init_128 : decode b_PatternBook_init 128 = .ok (.aastore, 1) := by decide +kernel
theorem d_PatternBook_init_129 : decode b_PatternBook_init 129 = .ok (.dup, 1) := by decide +kernel
theorem d_PatternBook_init_130 : decode b_PatternBook_init 130 = .ok (.bipush 7, 2) := by decide +kernel
theorem d_PatternBook_init_132 : decode b_PatternBook_init 132 = .ok (.new 17, 3) := by decide +kernel
theorem d_PatternBook_init_135 : decode b_PatternBook_init 135 = .ok (.dup, 1) := by decide +kernel
theorem d_PatternBook_init_136 : decode b_PatternBook_init 136 = .ok (.bipush 32, 2) := by decide +kernel
theorem d_PatternBook_init_138 : decode b_PatternBook_init 138 = .ok (.bipush 7, 2) := by decide +kernel
theorem d_PatternBook_init_140 : decode b_PatternBook_init 140 = .ok (.bipush 96, 2) := by decide +kernel
theorem d_PatternBook_init_142 : decode b_PatternBook_init 142 = .ok (.invokespecial 19, 3) := by decide +kernel
theorem d_PatternBook_init_145 : decode b_PatternBook_init 145 = .ok (.aastore, 1) := by decide +kernel
theorem d_PatternBook_init_146 : decode b_PatternBook_init 146 = .ok (.dup, 1) := by decide +kernel
theorem d_PatternBook_init_147 : decode b_PatternBook_init 147 = .ok (.bipush 8, 2) := by decide +kernel
theorem d_PatternBook_init_149 : decode b_PatternBook_init 149 = .ok (.new 17, 3) := by decide +kernel
theorem d_PatternBook_init_152 : decode b_PatternBook_init 152 = .ok (.dup, 1) := by decide +kernel
theorem d_PatternBook_init_153 : decode b_PatternBook_init 153 = .ok (.bipush 64, 2) := by decide +kernel
theorem d_PatternBook_init_155 : decode b_PatternBook_init 155 = .ok (.bipush 16, 2) := by decide +kernel
theorem d_PatternBook_init_157 : decode b_PatternBook_init 157 = .ok (.sipush 384, 3) := by decide +kernel
theorem d_PatternBook_init_160 : decode b_PatternBook_init 160 = .ok (.invokespecial 19, 3) := by decide +kernel
theorem d_PatternBook_init_163 : decode b_PatternBook_init 163 = .ok (.aastore, 1) := by decide +kernel
theorem d_PatternBook_init_164 : decode b_PatternBook_init 164 = .ok (.dup, 1) := by decide +kernel
theorem d_PatternBook_init_165 : decode b_PatternBook_init 165 = .ok (.bipush 9, 2) := by decide +kernel
theorem d_PatternBook_init_167 : decode b_PatternBook_init 167 = .ok (.new 17, 3) := by decide +kernel
theorem d_PatternBook_init_170 : decode b_PatternBook_init 170 = .ok (.dup, 1) := by decide +kernel
theorem d_PatternBook_init_171 : decode b_PatternBook_init 171 = .ok (.sipush 128, 3) := by decide +kernel
theorem d_PatternBook_init_174 : decode b_PatternBook_init 174 = .ok (.bipush 34, 2) := by decide +kernel
theorem d_PatternBook_init_176 : decode b_PatternBook_init 176 = .ok (.sipush 6144, 3) := by decide +kernel
theorem d_PatternBook_init_179 : decode b_PatternBook_init 179 = .ok (.invokespecial 19, 3) := by decide +kernel
theorem d_PatternBook_init_182 : decode b_PatternBook_init 182 = .ok (.aastore, 1) := by decide +kernel
theorem d_PatternBook_init_183 : decode b_PatternBook_init 183 = .ok (.putfield 20, 3) := by decide +kernel
theorem d_PatternBook_init_186 : decode b_PatternBook_init 186 = .ok (.aload_n 0, 1) := by decide +kernel
theorem d_PatternBook_init_187 : decode b_PatternBook_init 187 = .ok (.new 26, 3) := by decide +kernel
theorem d_PatternBook_init_190 : decode b_PatternBook_init 190 = .ok (.dup, 1) := by decide +kernel
theorem d_PatternBook_init_191 : decode b_PatternBook_init 191 = .ok (.invokespecial 28, 3) := by decide +kernel
theorem d_PatternBook_init_194 : decode b_PatternBook_init 194 = .ok (.putfield 29, 3) := by decide +kernel
theorem d_PatternBook_init_197 : decode b_PatternBook_init 197 = .ok (.aload_n 0, 1) := by decide +kernel
theorem d_PatternBook_init_198 : decode b_PatternBook_init 198 = .ok (.new 33, 3) := by decide +kernel
theorem d_PatternBook_init_201 : decode b_PatternBook_init 201 = .ok (.dup, 1) := by decide +kernel
theorem d_PatternBook_init_202 : decode b_PatternBook_init 202 = .ok (.invokespecial 35, 3) := by decide +kernel
theorem d_PatternBook_init_205 : decode b_PatternBook_init 205 = .ok (.putfield 36, 3) := by decide +kernel
theorem d_PatternBook_init_208 : decode b_PatternBook_init 208 = .ok (.aload_n 0, 1) := by decide +kernel
theorem d_PatternBook_init_209 : decode b_PatternBook_init 209 = .ok (.new 33, 3) := by decide +kernel
theorem d_PatternBook_init_212 : decode b_PatternBook_init 212 = .ok (.dup, 1) := by decide +kernel
theorem d_PatternBook_init_213 : decode b_PatternBook_init 213 = .ok (.invokespecial 35, 3) := by decide +kernel
theorem d_PatternBook_init_216 : decode b_PatternBook_init 216 = .ok (.putfield 40, 3) := by decide +kernel
theorem d_PatternBook_init_219 : decode b_PatternBook_init 219 = .ok (.aload_n 0, 1) := by decide +kernel
theorem d_PatternBook_init_220 : decode b_PatternBook_init 220 = .ok (.new 26, 3) := by decide +kernel
theorem d_PatternBook_init_223 : decode b_PatternBook_init 223 = .ok (.dup, 1) := by decide +kernel
theorem d_PatternBook_init_224 : decode b_PatternBook_init 224 = .ok (.invokespecial 28, 3) := by decide +kernel
theorem d_PatternBook_init_227 : decode b_PatternBook_init 227 = .ok (.putfield 43, 3) := by decide +kernel
theorem d_PatternBook_init_230 : decode b_PatternBook_init 230 = .ok (.aload_n 0, 1) := by decide +kernel
theorem d_PatternBook_init_231 : decode b_PatternBook_init 231 = .ok (.new 33, 3) := by decide +kernel
theorem d_PatternBook_init_234 : decode b_PatternBook_init 234 = .ok (.dup, 1) := by decide +kernel
theorem d_PatternBook_init_235 : decode b_PatternBook_init 235 = .ok (.invokespecial 35, 3) := by decide +kernel
theorem d_PatternBook_init_238 : decode b_PatternBook_init 238 = .ok (.putfield 46, 3) := by decide +kernel
theorem d_PatternBook_init_241 : decode b_PatternBook_init 241 = .ok (.return_, 1) := by decide +kernel
theorem d_PatternBookModel_bitsOf_0 : decode b_PatternBookModel_bitsOf 0 = .ok (.bipush 10, 2) := by decide +kernel
theorem d_PatternBookModel_bitsOf_2 : decode b_PatternBookModel_bitsOf 2 = .ok (.newarray .int, 2) := by decide +kernel
theorem d_PatternBookModel_bitsOf_4 : decode b_PatternBookModel_bitsOf 4 = .ok (.astore_n 1, 1) := by decide +kernel
theorem d_PatternBookModel_bitsOf_5 : decode b_PatternBookModel_bitsOf 5 = .ok (.iconst 0, 1) := by decide +kernel
theorem d_PatternBookModel_bitsOf_6 : decode b_PatternBookModel_bitsOf 6 = .ok (.istore_n 2, 1) := by decide +kernel
theorem d_PatternBookModel_bitsOf_7 : decode b_PatternBookModel_bitsOf 7 = .ok (.iload_n 2, 1) := by decide +kernel
theorem d_PatternBookModel_bitsOf_8 : decode b_PatternBookModel_bitsOf 8 = .ok (.bipush 10, 2) := by decide +kernel
theorem d_PatternBookModel_bitsOf_10 : decode b_PatternBookModel_bitsOf 10 = .ok (.if_icmp .ge 17, 3) := by decide +kernel
theorem d_PatternBookModel_bitsOf_13 : decode b_PatternBookModel_bitsOf 13 = .ok (.aload_n 1, 1) := by decide +kernel
theorem d_PatternBookModel_bitsOf_14 : decode b_PatternBookModel_bitsOf 14 = .ok (.iload_n 2, 1) := by decide +kernel
theorem d_PatternBookModel_bitsOf_15 : decode b_PatternBookModel_bitsOf 15 = .ok (.iload_n 0, 1) := by decide +kernel
theorem d_PatternBookModel_bitsOf_16 : decode b_PatternBookModel_bitsOf 16 = .ok (.iload_n 2, 1) := by decide +kernel
theorem d_PatternBookModel_bitsOf_17 : decode b_PatternBookModel_bitsOf 17 = .ok (.ishr, 1) := by decide +kernel
theorem d_PatternBookModel_bitsOf_18 : decode b_PatternBookModel_bitsOf 18 = .ok (.iconst 1, 1) := by decide +kernel
theorem d_PatternBookModel_bitsOf_19 : decode b_PatternBookModel_bitsOf 19 = .ok (.iand, 1) := by decide +kernel
theorem d_PatternBookModel_bitsOf_20 : decode b_PatternBookModel_bitsOf 20 = .ok (.iastore, 1) := by decide +kernel
theorem d_PatternBookModel_bitsOf_21 : decode b_PatternBookModel_bitsOf 21 = .ok (.iinc 2 1, 3) := by decide +kernel
theorem d_PatternBookModel_bitsOf_24 : decode b_PatternBookModel_bitsOf 24 = .ok (.goto (-17), 3) := by decide +kernel
theorem d_PatternBookModel_bitsOf_27 : decode b_PatternBookModel_bitsOf 27 = .ok (.aload_n 1, 1) := by decide +kernel
theorem d_PatternBookModel_bitsOf_28 : decode b_PatternBookModel_bitsOf 28 = .ok (.areturn, 1) := by decide +kernel
theorem d_PatternBookModel_spell_0 : decode b_PatternBookModel_spell 0 = .ok (.iload_n 0, 1) := by decide +kernel
theorem d_PatternBookModel_spell_1 : decode b_PatternBookModel_spell 1 = .ok (.invokestatic 62, 3) := by decide +kernel
theorem d_PatternBookModel_spell_4 : decode b_PatternBookModel_spell 4 = .ok (.astore_n 1, 1) := by decide +kernel
theorem d_PatternBookModel_spell_5 : decode b_PatternBookModel_spell 5 = .ok (.aload_n 1, 1) := by decide +kernel
theorem d_PatternBookModel_spell_6 : decode b_PatternBookModel_spell 6 = .ok (.bipush 9, 2) := by decide +kernel
theorem d_PatternBookModel_spell_8 : decode b_PatternBookModel_spell 8 = .ok (.iaload, 1) := by decide +kernel
theorem d_PatternBookModel_spell_9 : decode b_PatternBookModel_spell 9 = .ok (.istore_n 2, 1) := by decide +kernel
theorem d_PatternBookModel_spell_10 : decode b_PatternBookModel_spell 10 = .ok (.aload_n 1, 1) := by decide +kernel
theorem d_PatternBookModel_spell_11 : decode b_PatternBookModel_spell 11 = .ok (.bipush 8, 2) := by decide +kernel
theorem d_PatternBookModel_spell_13 : decode b_PatternBookModel_spell 13 = .ok (.iaload, 1) := by decide +kernel
theorem d_PatternBookModel_spell_14 : decode b_PatternBookModel_spell 14 = .ok (.istore_n 3, 1) := by decide +kernel
theorem d_PatternBookModel_spell_15 : decode b_PatternBookModel_spell 15 = .ok (.aload_n 1, 1) := by decide +kernel
theorem d_PatternBookModel_spell_16 : decode b_PatternBookModel_spell 16 = .ok (.bipush 7, 2) := by decide +kernel
theorem d_PatternBookModel_spell_18 : decode b_PatternBookModel_spell 18 = .ok (.iaload, 1) := by decide +kernel
theorem d_PatternBookModel_spell_19 : decode b_PatternBookModel_spell 19 = .ok (.istore 4, 2) := by decide +kernel
theorem d_PatternBookModel_spell_21 : decode b_PatternBookModel_spell 21 = .ok (.aload_n 1, 1) := by decide +kernel
theorem d_PatternBookModel_spell_22 : decode b_PatternBookModel_spell 22 = .ok (.bipush 6, 2) := by decide +kernel
theorem d_PatternBookModel_spell_24 : decode b_PatternBookModel_spell 24 = .ok (.iaload, 1) := by decide +kernel
theorem d_PatternBookModel_spell_25 : decode b_PatternBookModel_spell 25 = .ok (.istore 5, 2) := by decide +kernel
theorem d_PatternBookModel_spell_27 : decode b_PatternBookModel_spell 27 = .ok (.aload_n 1, 1) := by decide +kernel
theorem d_PatternBookModel_spell_28 : decode b_PatternBookModel_spell 28 = .ok (.iconst 5, 1) := by decide +kernel
theorem d_PatternBookModel_spell_29 : decode b_PatternBookModel_spell 29 = .ok (.iaload, 1) := by decide +kernel
theorem d_PatternBookModel_spell_30 : decode b_PatternBookModel_spell 30 = .ok (.istore 6, 2) := by decide +kernel
theorem d_PatternBookModel_spell_32 : decode b_PatternBookModel_spell 32 = .ok (.aload_n 1, 1) := by decide +kernel
theorem d_PatternBookModel_spell_33 : decode b_PatternBookModel_spell 33 = .ok (.iconst 4, 1) := by decide +kernel
theorem d_PatternBookModel_spell_34 : decode b_PatternBookModel_spell 34 = .ok (.iaload, 1) := by decide +kernel
theorem d_PatternBookModel_spell_35 : decode b_PatternBookModel_spell 35 = .ok (.istore 7, 2) := by decide +kernel
theorem d_PatternBookModel_spell_37 : decode b_PatternBookModel_spell 37 = .ok (.aload_n 1, 1) := by decide +kernel
theorem d_PatternBookModel_spell_38 : decode b_PatternBookModel_spell 38 = .ok (.iconst 2, 1) := by decide +kernel
theorem d_PatternBookModel_spell_39 : decode b_PatternBookModel_spell 39 = .ok (.iaload, 1) := by decide +kernel
theorem d_PatternBookModel_spell_40 : decode b_PatternBookModel_spell 40 = .ok (.istore 8, 2) := by decide +kernel
theorem d_PatternBookModel_spell_42 : decode b_PatternBookModel_spell 42 = .ok (.aload_n 1, 1) := by decide +kernel
theorem d_PatternBookModel_spell_43 : decode b_PatternBookModel_spell 43 = .ok (.iconst 1, 1) := by decide +kernel
theorem d_PatternBookModel_spell_44 : decode b_PatternBookModel_spell 44 = .ok (.iaload, 1) := by decide +kernel
theorem d_PatternBookModel_spell_45 : decode b_PatternBookModel_spell 45 = .ok (.istore 9, 2) := by decide +kernel
theorem d_PatternBookModel_spell_47 : decode b_PatternBookModel_spell 47 = .ok (.aload_n 1, 1) := by decide +kernel
theorem d_PatternBookModel_spell_48 : decode b_PatternBookModel_spell 48 = .ok (.iconst 0, 1) := by decide +kernel
theorem d_PatternBookModel_spell_49 : decode b_PatternBookModel_spell 49 = .ok (.iaload, 1) := by decide +kernel
theorem d_PatternBookModel_spell_50 : decode b_PatternBookModel_spell 50 = .ok (.istore 10, 2) := by decide +kernel
theorem d_PatternBookModel_spell_52 : decode b_PatternBookModel_spell 52 = .ok (.iconst 4, 1) := by decide +kernel
theorem d_PatternBookModel_spell_53 : decode b_PatternBookModel_spell 53 = .ok (.iload_n 2, 1) := by decide +kernel
theorem d_PatternBookModel_spell_54 : decode b_PatternBookModel_spell 54 = .ok (.imul, 1) := by decide +kernel
theorem d_PatternBookModel_spell_55 : decode b_PatternBookModel_spell 55 = .ok (.iconst 2, 1) := by decide +kernel
theorem d_PatternBookModel_spell_56 : decode b_PatternBookModel_spell 56 = .ok (.iload_n 3, 1) := by decide +kernel
theorem d_PatternBookModel_spell_57 : decode b_PatternBookModel_spell 57 = .ok (.imul, 1) := by decide +kernel
theorem d_PatternBookModel_spell_58 : decode b_PatternBookModel_spell 58 = .ok (.iadd, 1) := by decide +kernel
theorem d_PatternBookModel_spell_59 : decode b_PatternBookModel_spell 59 = .ok (.iload 4, 2) := by decide +kernel
theorem d_PatternBookModel_spell_61 : decode b_PatternBookModel_spell 61 = .ok (.iadd, 1) := by decide +kernel
theorem d_PatternBookModel_spell_62 : decode b_PatternBookModel_spell 62 = .ok (.istore 11, 2) := by decide +kernel
theorem d_PatternBookModel_spell_64 : decode b_PatternBookModel_spell 64 = .ok (.iconst 4, 1) := by decide +kernel
theorem d_PatternBookModel_spell_65 : decode b_PatternBookModel_spell 65 = .ok (.iload 5, 2) := by decide +kernel
theorem d_PatternBookModel_spell_67 : decode b_PatternBookModel_spell 67 = .ok (.imul, 1) := by decide +kernel
theorem d_PatternBookModel_spell_68 : decode b_PatternBookModel_spell 68 = .ok (.iconst 2, 1) := by decide +kernel
theorem d_PatternBookModel_spell_69 : decode b_PatternBookModel_spell 69 = .ok (.iload 6, 2) := by decide +kernel
theorem d_PatternBookModel_spell_71 : decode b_PatternBookModel_spell 71 = .ok (.imul, 1) := by decide +kernel
theorem d_PatternBookModel_spell_72 : decode b_PatternBookModel_spell 72 = .ok (.iadd, 1) := by decide +kernel
theorem d_PatternBookModel_spell_73 : decode b_PatternBookModel_spell 73 = .ok (.iload 7, 2) := by decide +kernel
theorem d_PatternBookModel_spell_75 : decode b_PatternBookModel_spell 75 = .ok (.iadd, 1) := by decide +kernel
theorem d_PatternBookModel_spell_76 : decode b_PatternBookModel_spell 76 = .ok (.istore 12, 2) := by decide +kernel
theorem d_PatternBookModel_spell_78 : decode b_PatternBookModel_spell 78 = .ok (.iconst 4, 1) := by decide +kernel
theorem d_PatternBookModel_spell_79 : decode b_PatternBookModel_spell 79 = .ok (.iload_n 2, 1) := by decide +kernel
theorem d_PatternBookModel_spell_80 : decode b_PatternBookModel_spell 80 = .ok (.imul, 1) := by decide +kernel
theorem d_PatternBookModel_spell_81 : decode b_PatternBookModel_spell 81 = .ok (.iconst 2, 1) := by decide +kernel
theorem d_PatternBookModel_spell_82 : decode b_PatternBookModel_spell 82 = .ok (.iload_n 3, 1) := by decide +kernel
theorem d_PatternBookModel_spell_83 : decode b_PatternBookModel_spell 83 = .ok (.imul, 1) := by decide +kernel
theorem d_PatternBookModel_spell_84 : decode b_PatternBookModel_spell 84 = .ok (.iadd, 1) := by decide +kernel
theorem d_PatternBookModel_spell_85 : decode b_PatternBookModel_spell 85 = .ok (.iload 7, 2) := by decide +kernel
theorem d_PatternBookModel_spell_87 : decode b_PatternBookModel_spell 87 = .ok (.iadd, 1) := by decide +kernel
theorem d_PatternBookModel_spell_88 : decode b_PatternBookModel_spell 88 = .ok (.istore 13, 2) := by decide +kernel
theorem d_PatternBookModel_spell_90 : decode b_PatternBookModel_spell 90 = .ok (.iconst 4, 1) := by decide +kernel
theorem d_PatternBookModel_spell_91 : decode b_PatternBookModel_spell 91 = .ok (.iload_n 2, 1) := by decide +kernel
theorem d_PatternBookModel_spell_92 : decode b_PatternBookModel_spell 92 = .ok (.imul, 1) := by decide +kernel
theorem d_PatternBookModel_spell_93 : decode b_PatternBookModel_spell 93 = .ok (.iconst 2, 1) := by decide +kernel
theorem d_PatternBookModel_spell_94 : decode b_PatternBookModel_spell 94 = .ok (.iload_n 3, 1) := by decide +kernel
theorem d_PatternBookModel_spell_95 : decode b_PatternBookModel_spell 95 = .ok (.imul, 1) := by decide +kernel
theorem d_PatternBookModel_spell_96 : decode b_PatternBookModel_spell 96 = .ok (.iadd, 1) := by decide +kernel
theorem d_PatternBookModel_spell_97 : decode b_PatternBookModel_spell 97 = .ok (.iload 10, 2) := by decide +kernel
theorem d_PatternBookModel_spell_99 : decode b_PatternBookModel_spell 99 = .ok (.iadd, 1) := by decide +kernel
theorem d_PatternBookModel_spell_100 : decode b_PatternBookModel_spell 100 = .ok (.istore 14, 2) := by decide +kernel
theorem d_PatternBookModel_spell_102 : decode b_PatternBookModel_spell 102 = .ok (.iconst 4, 1) := by decide +kernel
theorem d_PatternBookModel_spell_103 : decode b_PatternBookModel_spell 103 = .ok (.iload 5, 2) := by decide +kernel
theorem d_PatternBookModel_spell_105 : decode b_PatternBookModel_spell 105 = .ok (.imul, 1) := by decide +kernel
theorem d_PatternBookModel_spell_106 : decode b_PatternBookModel_spell 106 = .ok (.iconst 2, 1) := by decide +kernel
theorem d_PatternBookModel_spell_107 : decode b_PatternBookModel_spell 107 = .ok (.iload 6, 2) := by decide +kernel
theorem d_PatternBookModel_spell_109 : decode b_PatternBookModel_spell 109 = .ok (.imul, 1) := by decide +kernel
theorem d_PatternBookModel_spell_110 : decode b_PatternBookModel_spell 110 = .ok (.iadd, 1) := by decide +kernel
theorem d_PatternBookModel_spell_111 : decode b_PatternBookModel_spell 111 = .ok (.iload 10, 2) := by decide +kernel
theorem d_PatternBookModel_spell_113 : decode b_PatternBookModel_spell 113 = .ok (.iadd, 1) := by decide +kernel
theorem d_PatternBookModel_spell_114 : decode b_PatternBookModel_spell 114 = .ok (.istore 15, 2) := by decide +kernel
theorem d_PatternBookModel_spell_116 : decode b_PatternBookModel_spell 116 = .ok (.aload_n 1, 1) := by decide +kernel
theorem d_PatternBookModel_spell_117 : decode b_PatternBookModel_spell 117 = .ok (.iconst 3, 1) := by decide +kernel
theorem d_PatternBookModel_spell_118 : decode b_PatternBookModel_spell 118 = .ok (.iaload, 1) := by decide +kernel
theorem d_PatternBookModel_spell_119 : decode b_PatternBookModel_spell 119 = .ok (.ifCond .ne 28, 3) := by decide +kernel
theorem d_PatternBookModel_spell_122 : decode b_PatternBookModel_spell 122 = .ok (.bipush 100, 2) := by decide +kernel
theorem d_PatternBookModel_spell_124 : decode b_PatternBookModel_spell 124 = .ok (.iload 11, 2) := by decide +kernel
theorem d_PatternBookModel_spell_126 : decode b_PatternBookModel_spell 126 = .ok (.imul, 1) := by decide +kernel
theorem d_PatternBookModel_spell_127 : decode b_PatternBookModel_spell 127 = .ok (.bipush 10, 2) := by decide +kernel
theorem d_PatternBookModel_spell_129 : decode b_PatternBookModel_spell 129 = .ok (.iload 12, 2) := by decide +kernel
theorem d_PatternBookModel_spell_131 : decode b_PatternBookModel_spell 131 = .ok (.imul, 1) := by decide +kernel
theorem d_PatternBookModel_spell_132 : decode b_PatternBookModel_spell 132 = .ok (.iadd, 1) := by decide +kernel
theorem d_PatternBookModel_spell_133 : decode b_PatternBookModel_spell 133 = .ok (.iconst 4, 1) := by decide +kernel
theorem d_PatternBookModel_spell_134 : decode b_PatternBookModel_spell 134 = .ok (.iload 8, 2) := by decide +kernel
theorem d_PatternBookModel_spell_136 : decode b_PatternBookModel_spell 136 = .ok (.imul, 1) := by decide +kernel
theorem d_PatternBookModel_spell_137 : decode b_PatternBookModel_spell 137 = .ok (.iadd, 1) := by decide +kernel
theorem d_PatternBookModel_spell_138 : decode b_PatternBookModel_spell 138 = .ok (.iconst 2, 1) := by decide +kernel
theorem d_PatternBookModel_spell_139 : decode b_PatternBookModel_spell 139 = .ok (.iload 9, 2) := by decide +kernel
theorem d_PatternBookModel_spell_141 : decode b_PatternBookModel_spell 141 = .ok (.imul, 1) := by decide +kernel
theorem d_PatternBookModel_spell_142 : decode b_PatternBookModel_spell 142 = .ok (.iadd, 1) := by decide +kernel
theorem d_PatternBookModel_spell_143 : decode b_PatternBookModel_spell 143 = .ok (.iload 10, 2) := by decide +kernel
theorem d_PatternBookModel_spell_145 : decode b_PatternBookModel_spell 145 = .ok (.iadd, 1) := by decide +kernel
theorem d_PatternBookModel_spell_146 : decode b_PatternBookModel_spell 146 = .ok (.ireturn, 1) := by decide +kernel
theorem d_PatternBookModel_spell_147 : decode b_PatternBookModel_spell 147 = .ok (.iconst 2, 1) := by decide +kernel
theorem d_PatternBookModel_spell_148 : decode b_PatternBookModel_spell 148 = .ok (.iload 8, 2) := by decide +kernel
theorem d_PatternBookModel_spell_150 : decode b_PatternBookModel_spell 150 = .ok (.imul, 1) := by decide +kernel
theorem d_PatternBookModel_spell_151 : decode b_PatternBookModel_spell 151 = .ok (.iload 9, 2) := by decide +kernel
theorem d_PatternBookModel_spell_153 : decode b_PatternBookModel_spell 153 = .ok (.iadd, 1) := by decide +kernel
theorem d_PatternBookModel_spell_154 : decode b_PatternBookModel_spell 154 = .ok (.tableswitch 80 0 2 #[26, 44, 62], 26) := by decide +kernel
theorem d_PatternBookModel_spell_180 : decode b_PatternBookModel_spell 180 = .ok (.bipush 100, 2) := by decide +kernel
theorem d_PatternBookModel_spell_182 : decode b_PatternBookModel_spell 182 = .ok (.iload 11, 2) := by decide +kernel
theorem d_PatternBookModel_spell_184 : decode b_PatternBookModel_spell 184 = .ok (.imul, 1) := by decide +kernel
theorem d_PatternBookModel_spell_185 : decode b_PatternBookModel_spell 185 = .ok (.bipush 10, 2) := by decide +kernel
theorem d_PatternBookModel_spell_187 : decode b_PatternBookModel_spell 187 = .ok (.iload 12, 2) := by decide +kernel
theorem d_PatternBookModel_spell_189 : decode b_PatternBookModel_spell 189 = .ok (.imul, 1) := by decide +kernel
theorem d_PatternBookModel_spell_190 : decode b_PatternBookModel_spell 190 = .ok (.iadd, 1) := by decide +kernel
theorem d_PatternBookModel_spell_191 : decode b_PatternBookModel_spell 191 = .ok (.bipush 8, 2) := by decide +kernel
theorem d_PatternBookModel_spell_193 : decode b_PatternBookModel_spell 193 = .ok (.iadd, 1) := by decide +kernel
theorem d_PatternBookModel_spell_194 : decode b_PatternBookModel_spell 194 = .ok (.iload 10, 2) := by decide +kernel
theorem d_PatternBookModel_spell_196 : decode b_PatternBookModel_spell 196 = .ok (.iadd, 1) := by decide +kernel
theorem d_PatternBookModel_spell_197 : decode b_PatternBookModel_spell 197 = .ok (.ireturn, 1) := by decide +kernel
theorem d_PatternBookModel_spell_198 : decode b_PatternBookModel_spell 198 = .ok (.bipush 100, 2) := by decide +kernel
theorem d_PatternBookModel_spell_200 : decode b_PatternBookModel_spell 200 = .ok (.iload 11, 2) := by decide +kernel
theorem d_PatternBookModel_spell_202 : decode b_PatternBookModel_spell 202 = .ok (.imul, 1) := by decide +kernel
theorem d_PatternBookModel_spell_203 : decode b_PatternBookModel_spell 203 = .ok (.bipush 10, 2) := by decide +kernel
theorem d_PatternBookModel_spell_205 : decode b_PatternBookModel_spell 205 = .ok (.bipush 8, 2) := by decide +kernel
theorem d_PatternBookModel_spell_207 : decode b_PatternBookModel_spell 207 = .ok (.iload 7, 2) := by decide +kernel
theorem d_PatternBookModel_spell_209 : decode b_PatternBookModel_spell 209 = .ok (.iadd, 1) := by decide +kernel
theorem d_PatternBookModel_spell_210 : decode b_PatternBookModel_spell 210 = .ok (.imul, 1) := by decide +kernel
theorem d_PatternBookModel_spell_211 : decode b_PatternBookModel_spell 211 = .ok (.iadd, 1) := by decide +kernel
theorem d_PatternBookModel_spell_212 : decode b_PatternBookModel_spell 212 = .ok (.iload 15, 2) := by decide +kernel
theorem d_PatternBookModel_spell_214 : decode b_PatternBookModel_spell 214 = .ok (.iadd, 1) := by decide +kernel
theorem d_PatternBookModel_spell_215 : decode b_PatternBookModel_spell 215 = .ok (.ireturn, 1) := by decide +kernel
theorem d_PatternBookModel_spell_216 : decode b_PatternBookModel_spell 216 = .ok (.bipush 100, 2) := by decide +kernel
theorem d_PatternBookModel_spell_218 : decode b_PatternBookModel_spell 218 = .ok (.bipush 8, 2) := by decide +kernel
theorem d_PatternBookModel_spell_220 : decode b_PatternBookModel_spell 220 = .ok (.iload 4, 2) := by decide +kernel
theorem d_PatternBookModel_spell_222 : decode b_PatternBookModel_spell 222 = .ok (.iadd, 1) := by decide +kernel
theorem d_PatternBookModel_spell_223 : decode b_PatternBookModel_spell 223 = .ok (.imul, 1) := by decide +kernel
theorem d_PatternBookModel_spell_224 : decode b_PatternBookModel_spell 224 = .ok (.bipush 10, 2) := by decide +kernel
theorem d_PatternBookModel_spell_226 : decode b_PatternBookModel_spell 226 = .ok (.iload 12, 2) := by decide +kernel
theorem d_PatternBookModel_spell_228 : decode b_PatternBookModel_spell 228 = .ok (.imul, 1) := by decide +kernel
theorem d_PatternBookModel_spell_229 : decode b_PatternBookModel_spell 229 = .ok (.iadd, 1) := by decide +kernel
theorem d_PatternBookModel_spell_230 : decode b_PatternBookModel_spell 230 = .ok (.iload 14, 2) := by decide +kernel
theorem d_PatternBookModel_spell_232 : decode b_PatternBookModel_spell 232 = .ok (.iadd, 1) := by decide +kernel
theorem d_PatternBookModel_spell_233 : decode b_PatternBookModel_spell 233 = .ok (.ireturn, 1) := by decide +kernel
theorem d_PatternBookModel_spell_234 : decode b_PatternBookModel_spell 234 = .ok (.iconst 2, 1) := by decide +kernel
theorem d_PatternBookModel_spell_235 : decode b_PatternBookModel_spell 235 = .ok (.iload 5, 2) := by decide +kernel
theorem d_PatternBookModel_spell_237 : decode b_PatternBookModel_spell 237 = .ok (.imul, 1) := by decide +kernel
theorem d_PatternBookModel_spell_238 : decode b_PatternBookModel_spell 238 = .ok (.iload 6, 2) := by decide +kernel
theorem d_PatternBookModel_spell_240 : decode b_PatternBookModel_spell 240 = .ok (.iadd, 1) := by decide +kernel
theorem d_PatternBookModel_spell_241 : decode b_PatternBookModel_spell 241 = .ok (.tableswitch 90 0 2 #[27, 48, 69], 27) := by decide +kernel
theorem d_PatternBookModel_spell_268 : decode b_PatternBookModel_spell 268 = .ok (.bipush 100, 2) := by decide +kernel
theorem d_PatternBookModel_spell_270 : decode b_PatternBookModel_spell 270 = .ok (.bipush 8, 2) := by decide +kernel
theorem d_PatternBookModel_spell_272 : decode b_PatternBookModel_spell 272 = .ok (.iload 4, 2) := by decide +kernel
theorem d_PatternBookModel_spell_274 : decode b_PatternBookModel_spell 274 = .ok (.iadd, 1) := by decide +kernel
theorem d_PatternBookModel_spell_275 : decode b_PatternBookModel_spell 275 = .ok (.imul, 1) := by decide +kernel
theorem d_PatternBookModel_spell_276 : decode b_PatternBookModel_spell 276 = .ok (.bipush 10, 2) := by decide +kernel
theorem d_PatternBookModel_spell_278 : decode b_PatternBookModel_spell 278 = .ok (.bipush 8, 2) := by decide +kernel
theorem d_PatternBookModel_spell_280 : decode b_PatternBookModel_spell 280 = .ok (.iload 7, 2) := by decide +kernel
theorem d_PatternBookModel_spell_282 : decode b_PatternBookModel_spell 282 = .ok (.iadd, 1) := by decide +kernel
theorem d_PatternBookModel_spell_283 : decode b_PatternBookModel_spell 283 = .ok (.imul, 1) := by decide +kernel
theorem d_PatternBookModel_spell_284 : decode b_PatternBookModel_spell 284 = .ok (.iadd, 1) := by decide +kernel
theorem d_PatternBookModel_spell_285 : decode b_PatternBookModel_spell 285 = .ok (.iload 14, 2) := by decide +kernel
theorem d_PatternBookModel_spell_287 : decode b_PatternBookModel_spell 287 = .ok (.iadd, 1) := by decide +kernel
theorem d_PatternBookModel_spell_288 : decode b_PatternBookModel_spell 288 = .ok (.ireturn, 1) := by decide +kernel
theorem d_PatternBookModel_spell_289 : decode b_PatternBookModel_spell 289 = .ok (.bipush 100, 2) := by decide +kernel
theorem d_PatternBookModel_spell_291 : decode b_PatternBookModel_spell 291 = .ok (.bipush 8, 2) := by decide +kernel
theorem d_PatternBookModel_spell_293 : decode b_PatternBookModel_spell 293 = .ok (.iload 4, 2) := by decide +kernel
theorem d_PatternBookModel_spell_295 : decode b_PatternBookModel_spell 295 = .ok (.iadd, 1) := by decide +kernel
theorem d_PatternBookModel_spell_296 : decode b_PatternBookModel_spell 296 = .ok (.imul, 1) := by decide +kernel
theorem d_PatternBookModel_spell_297 : decode b_PatternBookModel_spell 297 = .ok (.bipush 10, 2) := by decide +kernel
theorem d_PatternBookModel_spell_299 : decode b_PatternBookModel_spell 299 = .ok (.iload 13, 2) := by decide +kernel
theorem d_PatternBookModel_spell_301 : decode b_PatternBookModel_spell 301 = .ok (.imul, 1) := by decide +kernel
theorem d_PatternBookModel_spell_302 : decode b_PatternBookModel_spell 302 = .ok (.iadd, 1) := by decide +kernel
theorem d_PatternBookModel_spell_303 : decode b_PatternBookModel_spell 303 = .ok (.bipush 8, 2) := by decide +kernel
theorem d_PatternBookModel_spell_305 : decode b_PatternBookModel_spell 305 = .ok (.iadd, 1) := by decide +kernel
theorem d_PatternBookModel_spell_306 : decode b_PatternBookModel_spell 306 = .ok (.iload 10, 2) := by decide +kernel
theorem d_PatternBookModel_spell_308 : decode b_PatternBookModel_spell 308 = .ok (.iadd, 1) := by decide +kernel
theorem d_PatternBookModel_spell_309 : decode b_PatternBookModel_spell 309 = .ok (.ireturn, 1) := by decide +kernel
theorem d_PatternBookModel_spell_310 : decode b_PatternBookModel_spell 310 = .ok (.bipush 100, 2) := by decide +kernel
theorem d_PatternBookModel_spell_312 : decode b_PatternBookModel_spell 312 = .ok (.iload 11, 2) := by decide +kernel
theorem d_PatternBookModel_spell_314 : decode b_PatternBookModel_spell 314 = .ok (.imul, 1) := by decide +kernel
theorem d_PatternBookModel_spell_315 : decode b_PatternBookModel_spell 315 = .ok (.bipush 10, 2) := by decide +kernel
theorem d_PatternBookModel_spell_317 : decode b_PatternBookModel_spell 317 = .ok (.bipush 8, 2) := by decide +kernel
theorem d_PatternBookModel_spell_319 : decode b_PatternBookModel_spell 319 = .ok (.iload 7, 2) := by decide +kernel
theorem d_PatternBookModel_spell_321 : decode b_PatternBookModel_spell 321 = .ok (.iadd, 1) := by decide +kernel
theorem d_PatternBookModel_spell_322 : decode b_PatternBookModel_spell 322 = .ok (.imul, 1) := by decide +kernel
theorem d_PatternBookModel_spell_323 : decode b_PatternBookModel_spell 323 = .ok (.iadd, 1) := by decide +kernel
theorem d_PatternBookModel_spell_324 : decode b_PatternBookModel_spell 324 = .ok (.bipush 8, 2) := by decide +kernel
theorem d_PatternBookModel_spell_326 : decode b_PatternBookModel_spell 326 = .ok (.iadd, 1) := by decide +kernel
theorem d_PatternBookModel_spell_327 : decode b_PatternBookModel_spell 327 = .ok (.iload 10, 2) := by decide +kernel
theorem d_PatternBookModel_spell_329 : decode b_PatternBookModel_spell 329 = .ok (.iadd, 1) := by decide +kernel
theorem d_PatternBookModel_spell_330 : decode b_PatternBookModel_spell 330 = .ok (.ireturn, 1) := by decide +kernel
theorem d_PatternBookModel_spell_331 : decode b_PatternBookModel_spell 331 = .ok (.bipush 100, 2) := by decide +kernel
theorem d_PatternBookModel_spell_333 : decode b_PatternBookModel_spell 333 = .ok (.bipush 8, 2) := by decide +kernel
theorem d_PatternBookModel_spell_335 : decode b_PatternBookModel_spell 335 = .ok (.iload 4, 2) := by decide +kernel
theorem d_PatternBookModel_spell_337 : decode b_PatternBookModel_spell 337 = .ok (.iadd, 1) := by decide +kernel
theorem d_PatternBookModel_spell_338 : decode b_PatternBookModel_spell 338 = .ok (.imul, 1) := by decide +kernel
theorem d_PatternBookModel_spell_339 : decode b_PatternBookModel_spell 339 = .ok (.bipush 10, 2) := by decide +kernel
theorem d_PatternBookModel_spell_341 : decode b_PatternBookModel_spell 341 = .ok (.bipush 8, 2) := by decide +kernel
theorem d_PatternBookModel_spell_343 : decode b_PatternBookModel_spell 343 = .ok (.iload 7, 2) := by decide +kernel
theorem d_PatternBookModel_spell_345 : decode b_PatternBookModel_spell 345 = .ok (.iadd, 1) := by decide +kernel
theorem d_PatternBookModel_spell_346 : decode b_PatternBookModel_spell 346 = .ok (.imul, 1) := by decide +kernel
theorem d_PatternBookModel_spell_347 : decode b_PatternBookModel_spell 347 = .ok (.iadd, 1) := by decide +kernel
theorem d_PatternBookModel_spell_348 : decode b_PatternBookModel_spell 348 = .ok (.bipush 8, 2) := by decide +kernel
theorem d_PatternBookModel_spell_350 : decode b_PatternBookModel_spell 350 = .ok (.iadd, 1) := by decide +kernel
theorem d_PatternBookModel_spell_351 : decode b_PatternBookModel_spell 351 = .ok (.iload 10, 2) := by decide +kernel
theorem d_PatternBookModel_spell_353 : decode b_PatternBookModel_spell 353 = .ok (.iadd, 1) := by decide +kernel
theorem d_PatternBookModel_spell_354 : decode b_PatternBookModel_spell 354 = .ok (.ireturn, 1) := by decide +kernel
theorem d_PatternBookModel_init_0 : decode b_PatternBookModel_init 0 = .ok (.aload_n 0, 1) := by decide +kernel
theorem d_PatternBookModel_init_1 : decode b_PatternBookModel_init 1 = .ok (.invokespecial 1, 3) := by decide +kernel
theorem d_PatternBookModel_init_4 : decode b_PatternBookModel_init 4 = .ok (.aload_n 0, 1) := by decide +kernel
theorem d_PatternBookModel_init_5 : decode b_PatternBookModel_init 5 = .ok (.bipush 12, 2) := by decide +kernel
theorem d_PatternBookModel_init_7 : decode b_PatternBookModel_init 7 = .ok (.newarray .long, 2) := by decide +kernel
theorem d_PatternBookModel_init_9 : decode b_PatternBookModel_init 9 = .ok (.putfield 7, 3) := by decide +kernel
theorem d_PatternBookModel_init_12 : decode b_PatternBookModel_init 12 = .ok (.aload_n 0, 1) := by decide +kernel
theorem d_PatternBookModel_init_13 : decode b_PatternBookModel_init 13 = .ok (.sipush 1024, 3) := by decide +kernel
theorem d_PatternBookModel_init_16 : decode b_PatternBookModel_init 16 = .ok (.newarray .int, 2) := by decide +kernel
theorem d_PatternBookModel_init_18 : decode b_PatternBookModel_init 18 = .ok (.putfield 13, 3) := by decide +kernel
theorem d_PatternBookModel_init_21 : decode b_PatternBookModel_init 21 = .ok (.aload_n 0, 1) := by decide +kernel
theorem d_PatternBookModel_init_22 : decode b_PatternBookModel_init 22 = .ok (.sipush 1000, 3) := by decide +kernel
theorem d_PatternBookModel_init_25 : decode b_PatternBookModel_init 25 = .ok (.newarray .int, 2) := by decide +kernel
theorem d_PatternBookModel_init_27 : decode b_PatternBookModel_init 27 = .ok (.putfield 17, 3) := by decide +kernel
theorem d_PatternBookModel_init_30 : decode b_PatternBookModel_init 30 = .ok (.iconst 0, 1) := by decide +kernel
theorem d_PatternBookModel_init_31 : decode b_PatternBookModel_init 31 = .ok (.istore_n 1, 1) := by decide +kernel
theorem d_PatternBookModel_init_32 : decode b_PatternBookModel_init 32 = .ok (.iload_n 1, 1) := by decide +kernel
theorem d_PatternBookModel_init_33 : decode b_PatternBookModel_init 33 = .ok (.sipush 1000, 3) := by decide +kernel
theorem d_PatternBookModel_init_36 : decode b_PatternBookModel_init 36 = .ok (.if_icmp .ge 16, 3) := by decide +kernel
theorem d_PatternBookModel_init_39 : decode b_PatternBookModel_init 39 = .ok (.aload_n 0, 1) := by decide +kernel
theorem d_PatternBookModel_init_40 : decode b_PatternBookModel_init 40 = .ok (.getfield 17, 3) := by decide +kernel
