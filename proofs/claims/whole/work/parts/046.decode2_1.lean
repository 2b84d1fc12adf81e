theorem d_PatternBookModel_thrown_0 : decode b_PatternBookModel_thrown 0 = .ok (.aload_n 0, 1) := by decide +kernel
theorem d_PatternBookModel_thrown_1 : decode b_PatternBookModel_thrown 1 = .ok (.getfield 24, 3) := by decide +kernel
theorem d_PatternBookModel_thrown_4 : decode b_PatternBookModel_thrown 4 = .ok (.ireturn, 1) := by decide +kernel
theorem d_PatternBookModel_isFormat_0 : decode b_PatternBookModel_isFormat 0 = .ok (.iload_n 0, 1) := by decide +kernel
theorem d_PatternBookModel_isFormat_1 : decode b_PatternBookModel_isFormat 1 = .ok (.ifCond .lt 13, 3) := by decide +kernel
theorem d_PatternBookModel_isFormat_4 : decode b_PatternBookModel_isFormat 4 = .ok (.iload_n 0, 1) := by decide +kernel
theorem d_PatternBookModel_isFormat_5 : decode b_PatternBookModel_isFormat 5 = .ok (.bipush 10, 2) := by decide +kernel
theorem d_PatternBookModel_isFormat_7 : decode b_PatternBookModel_isFormat 7 = .ok (.if_icmp .ge 7, 3) := by decide +kernel
theorem d_PatternBookModel_isFormat_10 : decode b_PatternBookModel_isFormat 10 = .ok (.iconst 1, 1) := by decide +kernel
theorem d_PatternBookModel_isFormat_11 : decode b_PatternBookModel_isFormat 11 = .ok (.goto 4, 3) := by decide +kernel
theorem d_PatternBookModel_isFormat_14 : decode b_PatternBookModel_isFormat 14 = .ok (.iconst 0, 1) := by decide +kernel
theorem d_PatternBookModel_isFormat_15 : decode b_PatternBookModel_isFormat 15 = .ok (.ireturn, 1) := by decide +kernel
theorem d_PatternBookModel_width_0 : decode b_PatternBookModel_width 0 = .ok (.iload_n 0, 1) := by decide +kernel
theorem d_PatternBookModel_width_1 : decode b_PatternBookModel_width 1 = .ok (.iconst 4, 1) := by decide +kernel
theorem d_PatternBookModel_width_2 : decode b_PatternBookModel_width 2 = .ok (.if_icmp .ge 10, 3) := by decide +kernel
theorem d_PatternBookModel_width_5 : decode b_PatternBookModel_width 5 = .ok (.bipush 16, 2) := by decide +kernel
theorem d_PatternBookModel_width_7 : decode b_PatternBookModel_width 7 = .ok (.iload_n 0, 1) := by decide +kernel
theorem d_PatternBookModel_width_8 : decode b_PatternBookModel_width 8 = .ok (.ishl, 1) := by decide +kernel
theorem d_PatternBookModel_width_9 : decode b_PatternBookModel_width 9 = .ok (.goto 11, 3) := by decide +kernel
theorem d_PatternBookModel_width_12 : decode b_PatternBookModel_width 12 = .ok (.bipush 32, 2) := by decide +kernel
theorem d_PatternBookModel_width_14 : decode b_PatternBookModel_width 14 = .ok (.iload_n 0, 1) := by decide +kernel
theorem d_PatternBookModel_width_15 : decode b_PatternBookModel_width 15 = .ok (.iconst 4, 1) := by decide +kernel
theorem d_PatternBookModel_width_16 : decode b_PatternBookModel_width 16 = .ok (.isub, 1) := by decide +kernel
theorem d_PatternBookModel_width_17 : decode b_PatternBookModel_width 17 = .ok (.iconst 3, 1) := by decide +kernel
theorem d_PatternBookModel_width_18 : decode b_PatternBookModel_width 18 = .ok (.irem, 1) := by decide +kernel
theorem d_PatternBookModel_width_19 : decode b_PatternBookModel_width 19 = .ok (.ishl, 1) := by decide +kernel
theorem d_PatternBookModel_width_20 : decode b_PatternBookModel_width 20 = .ok (.ireturn, 1) := by decide +kernel
theorem d_PatternBookModel_digitsOf_0 : decode b_PatternBookModel_digitsOf 0 = .ok (.iload_n 0, 1) := by decide +kernel
theorem d_PatternBookModel_digitsOf_1 : decode b_PatternBookModel_digitsOf 1 = .ok (.tableswitch 43 0 3 #[31, 34, 37, 40], 31) := by decide +kernel
theorem d_PatternBookModel_digitsOf_32 : decode b_PatternBookModel_digitsOf 32 = .ok (.bipush 11, 2) := by decide +kernel
theorem d_PatternBookModel_digitsOf_34 : decode b_PatternBookModel_digitsOf 34 = .ok (.ireturn, 1) := by decide +kernel
theorem d_PatternBookModel_digitsOf_35 : decode b_PatternBookModel_digitsOf 35 = .ok (.bipush 24, 2) := by decide +kernel
theorem d_PatternBookModel_digitsOf_37 : decode b_PatternBookModel_digitsOf 37 = .ok (.ireturn, 1) := by decide +kernel
theorem d_PatternBookModel_digitsOf_38 : decode b_PatternBookModel_digitsOf 38 = .ok (.bipush 53, 2) := by decide +kernel
theorem d_PatternBookModel_digitsOf_40 : decode b_PatternBookModel_digitsOf 40 = .ok (.ireturn, 1) := by decide +kernel
theorem d_PatternBookModel_digitsOf_41 : decode b_PatternBookModel_digitsOf 41 = .ok (.bipush 113, 2) := by decide +kernel
theorem d_PatternBookModel_digitsOf_43 : decode b_PatternBookModel_digitsOf 43 = .ok (.ireturn, 1) := by decide +kernel
theorem d_PatternBookModel_digitsOf_44 : decode b_PatternBookModel_digitsOf 44 = .ok (.iload_n 0, 1) := by decide +kernel
theorem d_PatternBookModel_digitsOf_45 : decode b_PatternBookModel_digitsOf 45 = .ok (.iconst 4, 1) := by decide +kernel
theorem d_PatternBookModel_digitsOf_46 : decode b_PatternBookModel_digitsOf 46 = .ok (.isub, 1) := by decide +kernel
theorem d_PatternBookModel_digitsOf_47 : decode b_PatternBookModel_digitsOf 47 = .ok (.iconst 3, 1) := by decide +kernel
theorem d_PatternBookModel_digitsOf_48 : decode b_PatternBookModel_digitsOf 48 = .ok (.irem, 1) := by decide +kernel
theorem d_PatternBookModel_digitsOf_49 : decode b_PatternBookModel_digitsOf 49 = .ok (.ifCond .ne 8, 3) := by decide +kernel
theorem d_PatternBookModel_digitsOf_52 : decode b_PatternBookModel_digitsOf 52 = .ok (.bipush 7, 2) := by decide +kernel
theorem d_PatternBookModel_digitsOf_54 : decode b_PatternBookModel_digitsOf 54 = .ok (.goto 19, 3) := by decide +kernel
theorem d_PatternBookModel_digitsOf_57 : decode b_PatternBookModel_digitsOf 57 = .ok (.iload_n 0, 1) := by decide +kernel
theorem d_PatternBookModel_digitsOf_58 : decode b_PatternBookModel_digitsOf 58 = .ok (.iconst 4, 1) := by decide +kernel
theorem d_PatternBookModel_digitsOf_59 : decode b_PatternBookModel_digitsOf 59 = .ok (.isub, 1) := by decide +kernel
theorem d_PatternBookModel_digitsOf_60 : decode b_PatternBookModel_digitsOf 60 = .ok (.iconst 3, 1) := by decide +kernel
theorem d_PatternBookModel_digitsOf_61 : decode b_PatternBookModel_digitsOf 61 = .ok (.irem, 1) := by decide +kernel
theorem d_PatternBookModel_digitsOf_62 : decode b_PatternBookModel_digitsOf 62 = .ok (.iconst 1, 1) := by decide +kernel
theorem d_PatternBookModel_digitsOf_63 : decode b_PatternBookModel_digitsOf 63 = .ok (.if_icmp .ne 8, 3) := by decide +kernel
theorem d_PatternBookModel_digitsOf_66 : decode b_PatternBookModel_digitsOf 66 = .ok (.bipush 16, 2) := by decide +kernel
theorem d_PatternBookModel_digitsOf_68 : decode b_PatternBookModel_digitsOf 68 = .ok (.goto 5, 3) := by decide +kernel
theorem d_PatternBookModel_digitsOf_71 : decode b_PatternBookModel_digitsOf 71 = .ok (.bipush 34, 2) := by decide +kernel
theorem d_PatternBookModel_digitsOf_73 : decode b_PatternBookModel_digitsOf 73 = .ok (.ireturn, 1) := by decide +kernel
theorem d_PatternBookModel_most_0 : decode b_PatternBookModel_most 0 = .ok (.iload_n 0, 1) := by decide +kernel
theorem d_PatternBookModel_most_1 : decode b_PatternBookModel_most 1 = .ok (.tableswitch 45 0 3 #[31, 34, 37, 41], 31) := by decide +kernel
theorem d_PatternBookModel_most_32 : decode b_PatternBookModel_most 32 = .ok (.bipush 15, 2) := by decide +kernel
theorem d_PatternBookModel_most_34 : decode b_PatternBookModel_most 34 = .ok (.ireturn, 1) := by decide +kernel
theorem d_PatternBookModel_most_35 : decode b_PatternBookModel_most 35 = .ok (.bipush 127, 2) := by decide +kernel
theorem d_PatternBookModel_most_37 : decode b_PatternBookModel_most 37 = .ok (.ireturn, 1) := by decide +kernel
theorem d_PatternBookModel_most_38 : decode b_PatternBookModel_most 38 = .ok (.sipush 1023, 3) := by decide +kernel
theorem d_PatternBookModel_most_41 : decode b_PatternBookModel_most 41 = .ok (.ireturn, 1) := by decide +kernel
theorem d_PatternBookModel_most_42 : decode b_PatternBookModel_most 42 = .ok (.sipush 16383, 3) := by decide +kernel
theorem d_PatternBookModel_most_45 : decode b_PatternBookModel_most 45 = .ok (.ireturn, 1) := by decide +kernel
theorem d_PatternBookModel_most_46 : decode b_PatternBookModel_most 46 = .ok (.iload_n 0, 1) := by decide +kernel
theorem d_PatternBookModel_most_47 : decode b_PatternBookModel_most 47 = .ok (.iconst 4, 1) := by decide +kernel
theorem d_PatternBookModel_most_48 : decode b_PatternBookModel_most 48 = .ok (.isub, 1) := by decide +kernel
theorem d_PatternBookModel_most_49 : decode b_PatternBookModel_most 49 = .ok (.iconst 3, 1) := by decide +kernel
theorem d_PatternBookModel_most_50 : decode b_PatternBookModel_most 50 = .ok (.irem, 1) := by decide +kernel
theorem d_PatternBookModel_most_51 : decode b_PatternBookModel_most 51 = .ok (.ifCond .ne 8, 3) := by decide +kernel
theorem d_PatternBookModel_most_54 : decode b_PatternBookModel_most 54 = .ok (.bipush 96, 2) := by decide +kernel
theorem d_PatternBookModel_most_56 : decode b_PatternBookModel_most 56 = .ok (.goto 21, 3) := by decide +kernel
theorem d_PatternBookModel_most_59 : decode b_PatternBookModel_most 59 = .ok (.iload_n 0, 1) := by decide +kernel
theorem d_PatternBookModel_most_60 : decode b_PatternBookModel_most 60 = .ok (.iconst 4, 1) := by decide +kernel
theorem d_PatternBookModel_most_61 : decode b_PatternBookModel_most 61 = .ok (.isub, 1) := by decide +kernel
theorem d_PatternBookModel_most_62 : decode b_PatternBookModel_most 62 = .ok (.iconst 3, 1) := by decide +kernel
theorem d_PatternBookModel_most_63 : decode b_PatternBookModel_most 63 = .ok (.irem, 1) := by decide +kernel
theorem d_PatternBookModel_most_64 : decode b_PatternBookModel_most 64 = .ok (.iconst 1, 1) := by decide +kernel
theorem d_PatternBookModel_most_65 : decode b_PatternBookModel_most 65 = .ok (.if_icmp .ne 9, 3) := by decide +kernel
theorem d_PatternBookModel_most_68 : decode b_PatternBookModel_most 68 = .ok (.sipush 384, 3) := by decide +kernel
theorem d_PatternBookModel_most_71 : decode b_PatternBookModel_most 71 = .ok (.goto 6, 3) := by decide +kernel
theorem d_PatternBookModel_most_74 : decode b_PatternBookModel_most 74 = .ok (.sipush 6144, 3) := by decide +kernel
theorem d_PatternBookModel_most_77 : decode b_PatternBookModel_most 77 = .ok (.ireturn, 1) := by decide +kernel
theorem d_PatternBookModel_least_0 : decode b_PatternBookModel_least 0 = .ok (.iconst 2, 1) := by decide +kernel
theorem d_PatternBookModel_least_1 : decode b_PatternBookModel_least 1 = .ok (.iload_n 0, 1) := by decide +kernel
theorem d_PatternBookModel_least_2 : decode b_PatternBookModel_least 2 = .ok (.invokestatic 28, 3) := by decide +kernel
theorem d_PatternBookModel_least_5 : decode b_PatternBookModel_least 5 = .ok (.isub, 1) := by decide +kernel
theorem d_PatternBookModel_least_6 : decode b_PatternBookModel_least 6 = .ok (.iload_n 0, 1) := by decide +kernel
theorem d_PatternBookModel_least_7 : decode b_PatternBookModel_least 7 = .ok (.invokestatic 31, 3) := by decide +kernel
theorem d_PatternBookModel_least_10 : decode b_PatternBookModel_least 10 = .ok (.isub, 1) := by decide +kernel
theorem d_PatternBookModel_least_11 : decode b_PatternBookModel_least 11 = .ok (.ireturn, 1) := by decide +kernel
theorem d_PatternBookModel_greatest_0 : decode b_PatternBookModel_greatest 0 = .ok (.iload_n 0, 1) := by decide +kernel
theorem d_PatternBookModel_greatest_1 : decode b_PatternBookModel_greatest 1 = .ok (.invokestatic 28, 3) := by decide +kernel
theorem d_PatternBookModel_greatest_4 : decode b_PatternBookModel_greatest 4 = .ok (.iconst 1, 1) := by decide +kernel
theorem d_PatternBookModel_greatest_5 : decode b_PatternBookModel_greatest 5 = .ok (.iadd, 1) := by decide +kernel
theorem d_PatternBookModel_greatest_6 : decode b_PatternBookModel_greatest 6 = .ok (.iload_n 0, 1) := by decide +kernel
theorem d_PatternBookModel_greatest_7 : decode b_PatternBookModel_greatest 7 = .ok (.invokestatic 31, 3) := by decide +kernel
theorem d_PatternBookModel_greatest_10 : decode b_PatternBookModel_greatest 10 = .ok (.isub, 1) := by decide +kernel
theorem d_PatternBookModel_greatest_11 : decode b_PatternBookModel_greatest 11 = .ok (.ireturn, 1) := by decide +kernel
theorem d_PatternBookModel_tail_0 : decode b_PatternBookModel_tail 0 = .ok (.bipush 10, 2) := by decide +kernel
theorem d_PatternBookModel_tail_2 : decode b_PatternBookModel_tail 2 = .ok (.iload_n 0, 1) := by decide +kernel
theorem d_PatternBookModel_tail_3 : decode b_PatternBookModel_tail 3 = .ok (.invokestatic 31, 3) := by decide +kernel
theorem d_PatternBookModel_tail_6 : decode b_PatternBookModel_tail 6 = .ok (.iconst 1, 1) := by decide +kernel
theorem d_PatternBookModel_tail_7 : decode b_PatternBookModel_tail 7 = .ok (.isub, 1) := by decide +kernel
theorem d_PatternBookModel_tail_8 : decode b_PatternBookModel_tail 8 = .ok (.iconst 3, 1) := by decide +kernel
theorem d_PatternBookModel_tail_9 : decode b_PatternBookModel_tail 9 = .ok (.idiv, 1) := by decide +kernel
theorem d_PatternBookModel_tail_10 : decode b_PatternBookModel_tail 10 = .ok (.imul, 1) := by decide +kernel
theorem d_PatternBookModel_tail_11 : decode b_PatternBookModel_tail 11 = .ok (.ireturn, 1) := by decide +kernel
theorem d_PatternBookModel_be_0 : decode b_PatternBookModel_be 0 = .ok (.aload_n 0, 1) := by decide +kernel
theorem d_PatternBookModel_be_1 : decode b_PatternBookModel_be 1 = .ok (.getfield 7, 3) := by decide +kernel
theorem d_PatternBookModel_be_4 : decode b_PatternBookModel_be 4 = .ok (.iconst 4, 1) := by decide +kernel
theorem d_PatternBookModel_be_5 : decode b_PatternBookModel_be 5 = .ok (.iload_n 1, 1) := by decide +kernel
theorem d_PatternBookModel_be_6 : decode b_PatternBookModel_be 6 = .ok (.imul, 1) := by decide +kernel
theorem d_PatternBookModel_be_7 : decode b_PatternBookModel_be 7 = .ok (.lload_n 2, 1) := by decide +kernel
theorem d_PatternBookModel_be_8 : decode b_PatternBookModel_be 8 = .ok (.ldc2_w 34, 3) := by decide +kernel
theorem d_PatternBookModel_be_11 : decode b_PatternBookModel_be 11 = .ok (.land, 1) := by decide +kernel
theorem d_PatternBookModel_be_12 : decode b_PatternBookModel_be 12 = .ok (.lastore, 1) := by decide +kernel
theorem d_PatternBookModel_be_13 : decode b_PatternBookModel_be 13 = .ok (.aload_n 0, 1) := by decide +kernel
theorem d_PatternBookModel_be_14 : decode b_PatternBookModel_be 14 = .ok (.getfield 7, 3) := by decide +kernel
theorem d_PatternBookModel_be_17 : decode b_PatternBookModel_be 17 = .ok (.iconst 4, 1) := by decide +kernel
theorem d_PatternBookModel_be_18 : decode b_PatternBookModel_be 18 = .ok (.iload_n 1, 1) := by decide +kernel
theorem d_PatternBookModel_be_19 : decode b_PatternBookModel_be 19 = .ok (.imul, 1) := by decide +kernel
theorem d_PatternBookModel_be_20 : decode b_PatternBookModel_be 20 = .ok (.iconst 1, 1) := by decide +kernel
theorem d_PatternBookModel_be_21 : decode b_PatternBookModel_be 21 = .ok (.iadd, 1) := by decide +kernel
theorem d_PatternBookModel_be_22 : decode b_PatternBookModel_be 22 = .ok (.lload_n 2, 1) := by decide +kernel
theorem d_PatternBookModel_be_23 : decode b_PatternBookModel_be 23 = .ok (.bipush 32, 2) := by decide +kernel
theorem d_PatternBookModel_be_25 : decode b_PatternBookModel_be 25 = .ok (.lushr, 1) := by decide +kernel
theorem d_PatternBookModel_be_26 : decode b_PatternBookModel_be 26 = .ok (.lastore, 1) := by decide +kernel
theorem d_PatternBookModel_be_27 : decode b_PatternBookModel_be 27 = .ok (.aload_n 0, 1) := by decide +kernel
theorem d_PatternBookModel_be_28 : decode b_PatternBookModel_be 28 = .ok (.getfield 7, 3) := by decide +kernel
theorem d_PatternBookModel_be_31 : decode b_PatternBookModel_be 31 = .ok (.iconst 4, 1) := by decide +kernel
theorem d_PatternBookModel_be_32 : decode b_PatternBookModel_be 32 = .ok (.iload_n 1, 1) := by decide +kernel
theorem d_PatternBookModel_be_33 : decode b_PatternBookModel_be 33 = .ok (.imul, 1) := by decide +kernel
theorem d_PatternBookModel_be_34 : decode b_PatternBookModel_be 34 = .ok (.iconst 2, 1) := by decide +kernel
theorem d_PatternBookModel_be_35 : decode b_PatternBookModel_be 35 = .ok (.iadd, 1) := by decide +kernel
theorem d_PatternBookModel_be_36 : decode b_PatternBookModel_be 36 = .ok (.lconst 0, 1) := by decide +kernel
theorem d_PatternBookModel_be_37 : decode b_PatternBookModel_be 37 = .ok (.lastore, 1) := by decide +kernel
theorem d_PatternBookModel_be_38 : decode b_PatternBookModel_be 38 = .ok (.aload_n 0, 1) := by decide +kernel
theorem d_PatternBookModel_be_39 : decode b_PatternBookModel_be 39 = .ok (.getfield 7, 3) := by decide +kernel
theorem d_PatternBookModel_be_42 : decode b_PatternBookModel_be 42 = .ok (.iconst 4, 1) := by decide +kernel
theorem d_PatternBookModel_be_43 : decode b_PatternBookModel_be 43 = .ok (.iload_n 1, 1) := by decide +kernel
theorem d_PatternBookModel_be_44 : decode b_PatternBookModel_be 44 = .ok (.imul, 1) := by decide +kernel
theorem d_PatternBookModel_be_45 : decode b_PatternBookModel_be 45 = .ok (.iconst 3, 1) := by decide +kernel
theorem d_PatternBookModel_be_46 : decode b_PatternBookModel_be 46 = .ok (.iadd, 1) := by decide +kernel
theorem d_PatternBookModel_be_47 : decode b_PatternBookModel_be 47 = .ok (.lconst 0, 1) := by decide +kernel
theorem d_PatternBookModel_be_48 : decode b_PatternBookModel_be 48 = .ok (.lastore, 1) := by decide +kernel
theorem d_PatternBookModel_be_49 : decode b_PatternBookModel_be 49 = .ok (.return_, 1) := by decide +kernel
theorem d_PatternBookModel_times_0 : decode b_PatternBookModel_times 0 = .ok (.iload_n 3, 1) := by decide +kernel
theorem d_PatternBookModel_times_1 : decode b_PatternBookModel_times 1 = .ok (.i2l, 1) := by decide +kernel
theorem d_PatternBookModel_times_2 : decode b_PatternBookModel_times 2 = .ok (.lstore 4, 2) := by decide +kernel
theorem d_PatternBookModel_times_4 : decode b_PatternBookModel_times 4 = .ok (.iconst 0, 1) := by decide +kernel
theorem d_PatternBookModel_times_5 : decode b_PatternBookModel_times 5 = .ok (.istore 6, 2) := by decide +kernel
theorem d_PatternBookModel_times_7 : decode b_PatternBookModel_times 7 = .ok (.iload 6, 2) := by decide +kernel
theorem d_PatternBookModel_times_9 : decode b_PatternBookModel_times 9 = .ok (.iconst 4, 1) := by decide +kernel
theorem d_PatternBookModel_times_10 : decode b_PatternBookModel_times 10 = .ok (.if_icmp .ge 52, 3) := by decide +kernel
theorem d_PatternBookModel_times_13 : decode b_PatternBookModel_times 13 = .ok (.aload_n 0, 1) := by decide +kernel
theorem d_PatternBookModel_times_14 : decode b_PatternBookModel_times 14 = .ok (.getfield 7, 3) := by decide +kernel
theorem d_PatternBookModel_times_17 : decode b_PatternBookModel_times 17 = .ok (.iconst 4, 1) := by decide +kernel
theorem d_PatternBookModel_times_18 : decode b_PatternBookModel_times 18 = .ok (.iload_n 1, 1) := by decide +kernel
theorem d_PatternBookModel_times_19 : decode b_PatternBookModel_times 19 = .ok (.imul, 1) := by decide +kernel
theorem d_PatternBookModel_times_20 : decode b_PatternBookModel_times 20 = .ok (.iload 6, 2) := by decide +kernel
theorem d_PatternBookModel_times_22 : decode b_PatternBookModel_times 22 = .ok (.iadd, 1) := by decide +kernel
theorem d_PatternBookModel_times_23 : decode b_PatternBookModel_times 23 = .ok (.laload, 1) := by decide +kernel
theorem d_PatternBookModel_times_24 : decode b_PatternBookModel_times 24 = .ok (.iload_n 2, 1) := by decide +kernel
theorem d_PatternBookModel_times_25 : decode b_PatternBookModel_times 25 = .ok (.i2l, 1) := by decide +kernel
theorem d_PatternBookModel_times_26 : decode b_PatternBookModel_times 26 = .ok (.lmul, 1) := by decide +kernel
theorem d_PatternBookModel_times_27 : decode b_PatternBookModel_times 27 = .ok (.lload 4, 2) := by decide +kernel
theorem d_PatternBookModel_times_29 : decode b_PatternBookModel_times 29 = .ok (.ladd, 1) := by decide +kernel
theorem d_PatternBookModel_times_30 : decode b_PatternBookModel_times 30 = .ok (.lstore 7, 2) := by decide +kernel
theorem d_PatternBookModel_times_32 : decode b_PatternBookModel_times 32 = .ok (.aload_n 0, 1) := by decide +kernel
theorem d_PatternBookModel_times_33 : decode b_PatternBookModel_times 33 = .ok (.getfield 7, 3) := by decide +kernel
theorem d_PatternBookModel_times_36 : decode b_PatternBookModel_times 36 = .ok (.iconst 4, 1) := by decide +kernel
theorem d_PatternBookModel_times_37 : decode b_PatternBookModel_times 37 = .ok (.iload_n 1, 1) := by decide +kernel
theorem d_PatternBookModel_times_38 : decode b_PatternBookModel_times 38 = .ok (.imul, 1) := by decide +kernel
theorem d_PatternBookModel_times_39 : decode b_PatternBookModel_times 39 = .ok (.iload 6, 2) := by decide +kernel
theorem d_PatternBookModel_times_41 : decode b_PatternBookModel_times 41 = .ok (.iadd, 1) := by decide +kernel
theorem d_PatternBookModel_times_42 : decode b_PatternBookModel_times 42 = .ok (.lload 7, 2) := by decide +kernel
theorem d_PatternBookModel_times_44 : decode b_PatternBookModel_times 44 = .ok (.ldc2_w 34, 3) := by decide +kernel
theorem d_PatternBookModel_times_47 : decode b_PatternBookModel_times 47 = .ok (.land, 1) := by decide +kernel
theorem d_PatternBookModel_times_48 : decode b_PatternBookModel_times 48 = .ok (.lastore, 1) := by decide +kernel
theorem d_PatternBookModel_times_49 : decode b_PatternBookModel_times 49 = .ok (.lload 7, 2) := by decide +kernel
theorem d_PatternBookModel_times_51 : decode b_PatternBookModel_times 51 = .ok (.bipush 32, 2) := by decide +kernel
theorem d_PatternBookModel_times_53 : decode b_PatternBookModel_times 53 = .ok (.lushr, 1) := by decide +kernel
theorem d_PatternBookModel_times_54 : decode b_PatternBookModel_times 54 = .ok (.lstore 4, 2) := by decide +kernel
theorem d_PatternBookModel_times_56 : decode b_PatternBookModel_times 56 = .ok (.iinc 6 1, 3) := by decide +kernel
theorem d_PatternBookModel_times_59 : decode b_PatternBookModel_times 59 = .ok (.goto (-52), 3) := by decide +kernel
theorem d_PatternBookModel_times_62 : decode b_PatternBookModel_times 62 = .ok (.return_, 1) := by decide +kernel
theorem d_PatternBookModel_over_0 : decode b_PatternBookModel_over 0 = .ok (.lconst 0, 1) := by decide +kernel
theorem d_PatternBookModel_over_1 : decode b_PatternBookModel_over 1 = .ok (.lstore_n 3, 1) := by decide +kernel
theorem d_PatternBookModel_over_2 : decode b_PatternBookModel_over 2 = .ok (.iconst 3, 1) := by decide +kernel
theorem d_PatternBookModel_over_3 : decode b_PatternBookModel_over 3 = .ok (.istore 5, 2) := by decide +kernel
theorem d_PatternBookModel_over_5 : decode b_PatternBookModel_over 5 = .ok (.iload 5, 2) := by decide +kernel
theorem d_PatternBookModel_over_7 : decode b_PatternBookModel_over 7 = .ok (.ifCond .lt 49, 3) := by decide +kernel
theorem d_PatternBookModel_over_10 : decode b_PatternBookModel_over 10 = .ok (.lload_n 3, 1) := by decide +kernel
theorem d_PatternBookModel_over_11 : decode b_PatternBookModel_over 11 = .ok (.bipush 32, 2) := by decide +kernel
theorem d_PatternBookModel_over_13 : decode b_PatternBookModel_over 13 = .ok (.lshl, 1) := by decide +kernel
theorem d_PatternBookModel_over_14 : decode b_PatternBookModel_over 14 = .ok (.aload_n 0, 1) := by decide +kernel
theorem d_PatternBookModel_over_15 : decode b_PatternBookModel_over 15 = .ok (.getfield 7, 3) := by decide +kernel
theorem d_PatternBookModel_over_18 : decode b_PatternBookModel_over 18 = .ok (.iconst 4, 1) := by decide +kernel
theorem d_PatternBookModel_over_19 : decode b_PatternBookModel_over 19 = .ok (.iload_n 1, 1) := by decide +kernel
theorem d_PatternBookModel_over_20 : decode b_PatternBookModel_over 20 = .ok (.imul, 1) := by decide +kernel
theorem d_PatternBookModel_over_21 : decode b_PatternBookModel_over 21 = .ok (.iload 5, 2) := by decide +kernel
theorem d_PatternBookModel_over_23 : decode b_PatternBookModel_over 23 = .ok (.iadd, 1) := by decide +kernel
theorem d_PatternBookModel_over_24 : decode b_PatternBookModel_over 24 = .ok (.laload, 1) := by decide +kernel
theorem d_PatternBookModel_over_25 : decode b_PatternBookModel_over 25 = .ok (.lor, 1) := by decide +kernel
theorem d_PatternBookModel_over_26 : decode b_PatternBookModel_over 26 = .ok (.lstore 6, 2) := by decide +kernel
theorem d_PatternBookModel_over_28 : decode b_PatternBookModel_over 28 = .ok (.aload_n 0, 1) := by decide +kernel
theorem d_PatternBookModel_over_29 : decode b_PatternBookModel_over 29 = .ok (.getfield 7, 3) := by decide +kernel
theorem d_PatternBookModel_over_32 : decode b_PatternBookModel_over 32 = .ok (.iconst 4, 1) := by decide +kernel
theorem d_PatternBookModel_over_33 : decode b_PatternBookModel_over 33 = .ok (.iload_n 1, 1) := by decide +kernel
theorem d_PatternBookModel_over_34 : decode b_PatternBookModel_over 34 = .ok (.imul, 1) := by decide +kernel
theorem d_PatternBookModel_over_35 : decode b_PatternBookModel_over 35 = .ok (.iload 5, 2) := by decide +kernel
theorem d_PatternBookModel_over_37 : decode b_PatternBookModel_over 37 = .ok (.iadd, 1) := by decide +kernel
theorem d_PatternBookModel_over_38 : decode b_PatternBookModel_over 38 = .ok (.lload 6, 2) := by decide +kernel
theorem d_PatternBookModel_over_40 : decode b_PatternBookModel_over 40 = .ok (.iload_n 2, 1) := by decide +kernel
theorem d_PatternBookModel_over_41 : decode b_PatternBookModel_over 41 = .ok (.i2l, 1) := by decide +kernel
theorem d_PatternBookModel_over_42 : decode b_PatternBookModel_over 42 = .ok (.ldiv, 1) := by decide +kernel
theorem d_PatternBookModel_over_43 : decode b_PatternBookModel_over 43 = .ok (.lastore, 1) := by decide +kernel
theorem d_PatternBookModel_over_44 : decode b_PatternBookModel_over 44 = .ok (.lload 6, 2) := by decide +kernel
theorem d_PatternBookModel_over_46 : decode b_PatternBookModel_over 46 = .ok (.iload_n 2, 1) := by decide +kernel
theorem d_PatternBookModel_over_47 : decode b_PatternBookModel_over 47 = .ok (.i2l, 1) := by decide +kernel
theorem d_PatternBookModel_over_48 : decode b_PatternBookModel_over 48 = .ok (.lrem, 1) := by decide +kernel
theorem d_PatternBookModel_over_49 : decode b_PatternBookModel_over 49 = .ok (.lstore_n 3, 1) := by decide +kernel
theorem d_PatternBookModel_over_50 : decode b_PatternBookModel_over 50 = .ok (.iinc 5 (-1), 3) := by decide +kernel
theorem d_PatternBookModel_over_53 : decode b_PatternBookModel_over 53 = .ok (.goto (-48), 3) := by decide +kernel
theorem d_PatternBookModel_over_56 : decode b_PatternBookModel_over 56 = .ok (.lload_n 3, 1) := by decide +kernel
theorem d_PatternBookModel_over_57 : decode b_PatternBookModel_over 57 = .ok (.l2i, 1) := by decide +kernel
theorem d_PatternBookModel_over_58 : decode b_PatternBookModel_over 58 = .ok (.ireturn, 1) := by decide +kernel
theorem d_PatternBookModel_power_0 : decode b_PatternBookModel_power 0 = .ok (.aload_n 0, 1) := by decide +kernel
theorem d_PatternBookModel_power_1 : decode b_PatternBookModel_power 1 = .ok (.iload_n 1, 1) := by decide +kernel
theorem d_PatternBookModel_power_2 : decode b_PatternBookModel_power 2 = .ok (.lconst 1, 1) := by decide +kernel
theorem d_PatternBookModel_power_3 : decode b_PatternBookModel_power 3 = .ok (.invokevirtual 36, 3) := by decide +kernel
theorem d_PatternBookModel_power_6 : decode b_PatternBookModel_power 6 = .ok (.iconst 0, 1) := by decide +kernel
theorem d_PatternBookModel_power_7 : decode b_PatternBookModel_power 7 = .ok (.istore 4, 2) := by decide +kernel
theorem d_PatternBookModel_power_9 : decode b_PatternBookModel_power 9 = .ok (.iload 4, 2) := by decide +kernel
theorem d_PatternBookModel_power_11 : decode b_PatternBookModel_power 11 = .ok (.iload_n 3, 1) := by decide +kernel
theorem d_PatternBookModel_power_12 : decode b_PatternBookModel_power 12 = .ok (.if_icmp .ge 16, 3) := by decide +kernel
theorem d_PatternBookModel_power_15 : decode b_PatternBookModel_power 15 = .ok (.aload_n 0, 1) := by decide +kernel
theorem d_PatternBookModel_power_16 : decode b_PatternBookModel_power 16 = .ok (.iload_n 1, 1) := by decide +kernel
theorem d_PatternBookModel_power_17 : decode b_PatternBookModel_power 17 = .ok (.iload_n 2, 1) := by decide +kernel
theorem d_PatternBookModel_power_18 : decode b_PatternBookModel_power 18 = .ok (.iconst 0, 1) := by decide +kernel
theorem d_PatternBookModel_power_19 : decode b_PatternBookModel_power 19 = .ok (.invokevirtual 40, 3) := by decide +kernel
theorem d_PatternBookModel_power_22 : decode b_PatternBookModel_power 22 = .ok (.iinc 4 1, 3) := by decide +kernel
theorem d_PatternBookModel_power_25 : decode b_PatternBookModel_power 25 = .ok (.goto (-16), 3) := by decide +kernel
theorem d_PatternBookModel_power_28 : decode b_PatternBookModel_power 28 = .ok (.return_, 1) := by decide +kernel
theorem d_PatternBookModel_isBelow_0 : decode b_PatternBookModel_isBelow 0 = .ok (.iconst 3, 1) := by decide +kernel
theorem d_PatternBookModel_isBelow_1 : decode b_PatternBookModel_isBelow 1 = .ok (.istore_n 3, 1) := by decide +kernel
theorem d_PatternBookModel_isBelow_2 : decode b_PatternBookModel_isBelow 2 = .ok (.iload_n 3, 1) := by decide +kernel
theorem d_PatternBookModel_isBelow_3 : decode b_PatternBookModel_isBelow 3 = .ok (.ifCond .lt 63, 3) := by decide +kernel
theorem d_PatternBookModel_isBelow_6 : decode b_PatternBookModel_isBelow 6 = .ok (.aload_n 0, 1) := by decide +kernel
theorem d_PatternBookModel_isBelow_7 : decode b_PatternBookModel_isBelow 7 = .ok (.getfield 7, 3) := by decide +kernel
theorem d_PatternBookModel_isBelow_10 : decode b_PatternBookModel_isBelow 10 = .ok (.iconst 4, 1) := by decide +kernel
theorem d_PatternBookModel_isBelow_11 : decode b_PatternBookModel_isBelow 11 = .ok (.iload_n 1, 1) := by decide +kernel
theorem d_PatternBookModel_isBelow_12 : decode b_PatternBookModel_isBelow 12 = .ok (.imul, 1) := by decide +kernel
theorem d_PatternBookModel_isBelow_13 : decode b_PatternBookModel_isBelow 13 = .ok (.iload_n 3, 1) := by decide +kernel
theorem d_PatternBookModel_isBelow_14 : decode b_PatternBookModel_isBelow 14 = .ok (.iadd, 1) := by decide +kernel
theorem d_PatternBookModel_isBelow_15 : decode b_PatternBookModel_isBelow 15 = .ok (.laload, 1) := by decide +kernel
theorem d_PatternBookModel_isBelow_16 : decode b_PatternBookModel_isBelow 16 = .ok (.aload_n 0, 1) := by decide +kernel
theorem d_PatternBookModel_isBelow_17 : decode b_PatternBookModel_isBelow 17 = .ok (.getfield 7, 3) := by decide +kernel
theorem d_PatternBookModel_isBelow_20 : decode b_PatternBookModel_isBelow 20 = .ok (.iconst 4, 1) := by decide +kernel
theorem d_PatternBookModel_isBelow_21 : decode b_PatternBookModel_isBelow 21 = .ok (.iload_n 2, 1) := by decide +kernel
theorem d_PatternBookModel_isBelow_22 : decode b_PatternBookModel_isBelow 22 = .ok (.imul, 1) := by decide +kernel
theorem d_PatternBookModel_isBelow_23 : decode b_PatternBookModel_isBelow 23 = .ok (.iload_n 3, 1) := by decide +kernel
theorem d_PatternBookModel_isBelow_24 : decode b_PatternBookModel_isBelow 24 = .ok (.iadd, 1) := by decide +kernel
theorem d_PatternBookModel_isBelow_25 : decode b_PatternBookModel_isBelow 25 = .ok (.laload, 1) := by decide +kernel
theorem d_PatternBookModel_isBelow_26 : decode b_PatternBookModel_isBelow 26 = .ok (.lcmp, 1) := by decide +kernel
theorem d_PatternBookModel_isBelow_27 : decode b_PatternBookModel_isBelow 27 = .ok (.ifCond .eq 33, 3) := by decide +kernel
theorem d_PatternBookModel_isBelow_30 : decode b_PatternBookModel_isBelow 30 = .ok (.aload_n 0, 1) := by decide +kernel
theorem d_PatternBookModel_isBelow_31 : decode b_PatternBookModel_isBelow 31 = .ok (.getfield 7, 3) := by decide +kernel
theorem d_PatternBookModel_isBelow_34 : decode b_PatternBookModel_isBelow 34 = .ok (.iconst 4, 1) := by decide +kernel
theorem d_PatternBookModel_isBelow_35 : decode b_PatternBookModel_isBelow 35 = .ok (.iload_n 1, 1) := by decide +kernel
theorem d_PatternBookModel_isBelow_36 : decode b_PatternBookModel_isBelow 36 = .ok (.imul, 1) := by decide +kernel
theorem d_PatternBookModel_isBelow_37 : decode b_PatternBookModel_isBelow 37 = .ok (.iload_n 3, 1) := by decide +kernel
theorem d_PatternBookModel_isBelow_38 : decode b_PatternBookModel_isBelow 38 = .ok (.iadd, 1) := by decide +kernel
theorem d_PatternBookModel_isBelow_39 : decode b_PatternBookModel_isBelow 39 = .ok (.laload, 1) := by decide +kernel
theorem d_PatternBookModel_isBelow_40 : decode b_PatternBookModel_isBelow 40 = .ok (.aload_n 0, 1) := by decide +kernel
theorem d_PatternBookModel_isBelow_41 : decode b_PatternBookModel_isBelow 41 = .ok (.getfield 7, 3) := by decide +kernel
theorem d_PatternBookModel_isBelow_44 : decode b_PatternBookModel_isBelow 44 = .ok (.iconst 4, 1) := by decide +kernel
theorem d_PatternBookModel_isBelow_45 : decode b_PatternBookModel_isBelow 45 = .ok (.iload_n 2, 1) := by decide +kernel
theorem d_PatternBookModel_isBelow_46 : decode b_PatternBookModel_isBelow 46 = .ok (.imul, 1) := by decide +kernel
theorem d_PatternBookModel_isBelow_47 : decode b_PatternBookModel_isBelow 47 = .ok (.iload_n 3, 1) := by decide +kernel
theorem d_PatternBookModel_isBelow_48 : decode b_PatternBookModel_isBelow 48 = .ok (.iadd, 1) := by decide +kernel
theorem d_PatternBookModel_isBelow_49 : decode b_PatternBookModel_isBelow 49 = .ok (.laload, 1) := by decide +kernel
theorem d_PatternBookModel_isBelow_50 : decode b_PatternBookModel_isBelow 50 = .ok (.lcmp, 1) := by decide +kernel
theorem d_PatternBookModel_isBelow_51 : decode b_PatternBookModel_isBelow 51 = .ok (.ifCond .ge 7, 3) := by decide +kernel
theorem d_PatternBookModel_isBelow_54 : decode b_PatternBookModel_isBelow 54 = .ok (.iconst 1, 1) := by decide +kernel
theorem d_PatternBookModel_isBelow_55 : decode b_PatternBookModel_isBelow 55 = .ok (.goto 4, 3) := by decide +kernel
theorem d_PatternBookModel_isBelow_58 : decode b_PatternBookModel_isBelow 58 = .ok (.iconst 0, 1) := by decide +kernel
theorem d_PatternBookModel_isBelow_59 : decode b_PatternBookModel_isBelow 59 = .ok (.ireturn, 1) := by decide +kernel
theorem d_PatternBookModel_isBelow_60 : decode b_PatternBookModel_isBelow 60 = .ok (.iinc 3 (-1), 3) := by decide +kernel
theorem d_PatternBookModel_isBelow_63 : decode b_PatternBookModel_isBelow 63 = .ok (.goto (-61), 3) := by decide +kernel
theorem d_PatternBookModel_isBelow_66 : decode b_PatternBookModel_isBelow 66 = .ok (.iconst 0, 1) := by decide +kernel
theorem d_PatternBookModel_isBelow_67 : decode b_PatternBookModel_isBelow 67 = .ok (.ireturn, 1) := by decide +kernel
theorem d_PatternBookModel_isZero_0 : decode b_PatternBookModel_isZero 0 = .ok (.aload_n 0, 1) := by decide +kernel
theorem d_PatternBookModel_isZero_1 : decode b_PatternBookModel_isZero 1 = .ok (.getfield 7, 3) := by decide +kernel
theorem d_PatternBookModel_isZero_4 : decode b_PatternBookModel_isZero 4 = .ok (.iconst 4, 1) := by decide +kernel
theorem d_PatternBookModel_isZero_5 : decode b_PatternBookModel_isZero 5 = .ok (.iload_n 1, 1) := by decide +kernel
theorem d_PatternBookModel_isZero_6 : decode b_PatternBookModel_isZero 6 = .ok (.imul, 1) := by decide +kernel
theorem d_PatternBookModel_isZero_7 : decode b_PatternBookModel_isZero 7 = .ok (.laload, 1) := by decide +kernel
theorem d_PatternBookModel_isZero_8 : decode b_PatternBookModel_isZero 8 = .ok (.aload_n 0, 1) := by decide +kernel
theorem d_PatternBookModel_isZero_9 : decode b_PatternBookModel_isZero 9 = .ok (.getfield 7, 3) := by decide +kernel
theorem d_PatternBookModel_isZero_12 : decode b_PatternBookModel_isZero 12 = .ok (.iconst 4, 1) := by decide +kernel
theorem d_PatternBookModel_isZero_13 : decode b_PatternBookModel_isZero 13 = .ok (.iload_n 1, 1) := by decide +kernel
theorem d_PatternBookModel_isZero_14 : decode b_PatternBookModel_isZero 14 = .ok (.imul, 1) := by decide +kernel
theorem d_PatternBookModel_isZero_15 : decode b_PatternBookModel_isZero 15 = .ok (.iconst 1, 1) := by decide +kernel
theorem d_PatternBookModel_isZero_16 : decode b_PatternBookModel_isZero 16 = .ok (.iadd, 1) := by decide +kernel
theorem d_PatternBookModel_isZero_17 : decode b_PatternBookModel_isZero 17 = .ok (.laload, 1) := by decide +kernel
theorem d_PatternBookModel_isZero_18 : decode b_PatternBookModel_isZero 18 = .ok (.lor, 1) := by decide +kernel
theorem d_PatternBookModel_isZero_19 : decode b_PatternBookModel_isZero 19 = .ok (.aload_n 0, 1) := by decide +kernel
theorem d_PatternBookModel_isZero_20 : decode b_PatternBookModel_isZero 20 = .ok (.getfield 7, 3) := by decide +kernel
theorem d_PatternBookModel_isZero_23 : decode b_PatternBookModel_isZero 23 = .ok (.iconst 4, 1) := by decide +kernel
theorem d_PatternBookModel_isZero_24 : decode b_PatternBookModel_isZero 24 = .ok (.iload_n 1, 1) := by decide +kernel
theorem d_PatternBookModel_isZero_25 : decode b_PatternBookModel_isZero 25 = .ok (.imul, 1) := by decide +kernel
theorem d_PatternBookModel_isZero_26 : decode b_PatternBookModel_isZero 26 = .ok (.iconst 2, 1) := by decide +kernel
theorem d_PatternBookModel_isZero_27 : decode b_PatternBookModel_isZero 27 = .ok (.iadd, 1) := by decide +kernel
theorem d_PatternBookModel_isZero_28 : decode b_PatternBookModel_isZero 28 = .ok (.laload, 1) := by decide +kernel
theorem d_PatternBookModel_isZero_29 : decode b_PatternBookModel_isZero 29 = .ok (.lor, 1) := by decide +kernel
theorem d_PatternBookModel_isZero_30 : decode b_PatternBookModel_isZero 30 = .ok (.aload_n 0, 1) := by decide +kernel
theorem d_PatternBookModel_isZero_31 : decode b_PatternBookModel_isZero 31 = .ok (.getfield 7, 3) := by decide +kernel
theorem d_PatternBookModel_isZero_34 : decode b_PatternBookModel_isZero 34 = .ok (.iconst 4, 1) := by decide +kernel
theorem d_PatternBookModel_isZero_35 : decode b_PatternBookModel_isZero 35 = .ok (.iload_n 1, 1) := by decide +kernel
theorem d_PatternBookModel_isZero_36 : decode b_PatternBookModel_isZero 36 = .ok (.imul, 1) := by decide +kernel
theorem d_PatternBookModel_isZero_37 : decode b_PatternBookModel_isZero 37 = .ok (.iconst 3, 1) := by decide +kernel
theorem d_PatternBookModel_isZero_38 : decode b_PatternBookModel_isZero 38 = .ok (.iadd, 1) := by decide +kernel
theorem d_PatternBookModel_isZero_39 : decode b_PatternBookModel_isZero 39 = .ok (.laload, 1) := by decide +kernel
theorem d_PatternBookModel_isZero_40 : decode b_PatternBookModel_isZero 40 = .ok (.lor, 1) := by decide +kernel
theorem d_PatternBookModel_isZero_41 : decode b_PatternBookModel_isZero 41 = .ok (.lconst 0, 1) := by decide +kernel
theorem d_PatternBookModel_isZero_42 : decode b_PatternBookModel_isZero 42 = .ok (.lcmp, 1) := by decide +kernel
theorem d_PatternBookModel_isZero_43 : decode b_PatternBookModel_isZero 43 = .ok (.ifCond .ne 7, 3) := by decide +kernel
theorem d_PatternBookModel_isZero_46 : decode b_PatternBookModel_isZero 46 = .ok (.iconst 1, 1) := by decide +kernel
theorem d_PatternBookModel_isZero_47 : decode b_PatternBookModel_isZero 47 = .ok (.goto 4, 3) := by decide +kernel
theorem d_PatternBookModel_isZero_50 : decode b_PatternBookModel_isZero 50 = .ok (.iconst 0, 1) := by decide +kernel
theorem d_PatternBookModel_isZero_51 : decode b_PatternBookModel_isZero 51 = .ok (.ireturn, 1) := by decide +kernel
theorem d_PatternBookModel_bitOf_0 : decode b_PatternBookModel_bitOf 0 = .ok (.aload_n 0, 1) := by decide +kernel
theorem d_PatternBookModel_bitOf_1 : decode b_PatternBookModel_bitOf 1 = .ok (.getfield 7, 3) := by decide +kernel
theorem d_PatternBookModel_bitOf_4 : decode b_PatternBookModel_bitOf 4 = .ok (.iconst 4, 1) := by decide +kernel
theorem d_PatternBookModel_bitOf_5 : decode b_PatternBookModel_bitOf 5 = .ok (.iload_n 1, 1) := by decide +kernel
theorem d_PatternBookModel_bitOf_6 : decode b_PatternBookModel_bitOf 6 = .ok (.imul, 1) := by decide +kernel
theorem d_PatternBookModel_bitOf_7 : decode b_PatternBookModel_bitOf 7 = .ok (.iload_n 2, 1) := by decide +kernel
theorem d_PatternBookModel_bitOf_8 : decode b_PatternBookModel_bitOf 8 = .ok (.bipush 32, 2) := by decide +kernel
theorem d_PatternBookModel_bitOf_10 : decode b_PatternBookModel_bitOf 10 = .ok (.idiv, 1) := by decide +kernel
theorem d_PatternBookModel_bitOf_11 : decode b_PatternBookModel_bitOf 11 = .ok (.iadd, 1) := by decide +kernel
theorem d_PatternBookModel_bitOf_12 : decode b_PatternBookModel_bitOf 12 = .ok (.laload, 1) := by decide +kernel
theorem d_PatternBookModel_bitOf_13 : decode b_PatternBookModel_bitOf 13 = .ok (.iload_n 2, 1) := by decide +kernel
theorem d_PatternBookModel_bitOf_14 : decode b_PatternBookModel_bitOf 14 = .ok (.bipush 32, 2) := by decide +kernel
theorem d_PatternBookModel_bitOf_16 : decode b_PatternBookModel_bitOf 16 = .ok (.irem, 1) := by decide +kernel
theorem d_PatternBookModel_bitOf_17 : decode b_PatternBookModel_bitOf 17 = .ok (.lshr, 1) := by decide +kernel
theorem d_PatternBookModel_bitOf_18 : decode b_PatternBookModel_bitOf 18 = .ok (.lconst 1, 1) := by decide +kernel
theorem d_PatternBookModel_bitOf_19 : decode b_PatternBookModel_bitOf 19 = .ok (.land, 1) := by decide +kernel
theorem d_PatternBookModel_bitOf_20 : decode b_PatternBookModel_bitOf 20 = .ok (.l2i, 1) := by decide +kernel
theorem d_PatternBookModel_bitOf_21 : decode b_PatternBookModel_bitOf 21 = .ok (.ireturn, 1) := by decide +kernel
theorem d_PatternBookModel_bit_0 : decode b_PatternBookModel_bit 0 = .ok (.iload_n 1, 1) := by decide +kernel
theorem d_PatternBookModel_bit_1 : decode b_PatternBookModel_bit 1 = .ok (.bipush 64, 2) := by decide +kernel
theorem d_PatternBookModel_bit_3 : decode b_PatternBookModel_bit 3 = .ok (.if_icmp .ge 12, 3) := by decide +kernel
theorem d_PatternBookModel_bit_6 : decode b_PatternBookModel_bit 6 = .ok (.aload_n 0, 1) := by decide +kernel
theorem d_PatternBookModel_bit_7 : decode b_PatternBookModel_bit 7 = .ok (.getfield 44, 3) := by decide +kernel
theorem d_PatternBookModel_bit_10 : decode b_PatternBookModel_bit 10 = .ok (.iload_n 1, 1) := by decide +kernel
theorem d_PatternBookModel_bit_11 : decode b_PatternBookModel_bit 11 = .ok (.lushr, 1) := by decide +kernel
theorem d_PatternBookModel_bit_12 : decode b_PatternBookModel_bit 12 = .ok (.goto 12, 3) := by decide +kernel
theorem d_PatternBookModel_bit_15 : decode b_PatternBookModel_bit 15 = .ok (.aload_n 0, 1) := by decide +kernel
theorem d_PatternBookModel_bit_16 : decode b_PatternBookModel_bit 16 = .ok (.getfield 48, 3) := by decide +kernel
theorem d_PatternBookModel_bit_19 : decode b_PatternBookModel_bit 19 = .ok (.iload_n 1, 1) := by decide +kernel
theorem d_PatternBookModel_bit_20 : decode b_PatternBookModel_bit 20 = .ok (.bipush 64, 2) := by decide +kernel
theorem d_PatternBookModel_bit_22 : decode b_PatternBookModel_bit 22 = .ok (.isub, 1) := by decide +kernel
theorem d_PatternBookModel_bit_23 : decode b_PatternBookModel_bit 23 = .ok (.lushr, 1) := by decide +kernel
theorem d_PatternBookModel_bit_24 : decode b_PatternBookModel_bit 24 = .ok (.lconst 1, 1) := by decide +kernel
theorem d_PatternBookModel_bit_25 : decode b_PatternBookModel_bit 25 = .ok (.land, 1) := by decide +kernel
theorem d_PatternBookModel_bit_26 : decode b_PatternBookModel_bit 26 = .ok (.l2i, 1) := by decide +kernel
theorem d_PatternBookModel_bit_27 : decode b_PatternBookModel_bit 27 = .ok (.ireturn, 1) := by decide +kernel
theorem d_PatternBookModel_field_0 : decode b_PatternBookModel_field 0 = .ok (.iconst 0, 1) := by decide +kernel
theorem d_PatternBookModel_field_1 : decode b_PatternBookModel_field 1 = .ok (.istore_n 3, 1) := by decide +kernel
theorem d_PatternBookModel_field_2 : decode b_PatternBookModel_field 2 = .ok (.iload_n 2, 1) := by decide +kernel
theorem d_PatternBookModel_field_3 : decode b_PatternBookModel_field 3 = .ok (.iconst 1, 1) := by decide +kernel
theorem d_PatternBookModel_field_4 : decode b_PatternBookModel_field 4 = .ok (.isub, 1) := by decide +kernel
theorem d_PatternBookModel_field_5 : decode b_PatternBookModel_field 5 = .ok (.istore 4, 2) := by decide +kernel
theorem d_PatternBookModel_field_7 : decode b_PatternBookModel_field 7 = .ok (.iload 4, 2) := by decide +kernel
theorem d_PatternBookModel_field_9 : decode b_PatternBookModel_field 9 = .ok (.ifCond .lt 22, 3) := by decide +kernel
theorem d_PatternBookModel_field_12 : decode b_PatternBookModel_field 12 = .ok (.iconst 2, 1) := by decide +kernel
theorem d_PatternBookModel_field_13 : decode b_PatternBookModel_field 13 = .ok (.iload_n 3, 1) := by decide +kernel
theorem d_PatternBookModel_field_14 : decode b_PatternBookModel_field 14 = .ok (.imul, 1) := by decide +kernel
theorem d_PatternBookModel_field_15 : decode b_PatternBookModel_field 15 = .ok (.aload_n 0, 1) := by decide +kernel
theorem d_PatternBookModel_field_16 : decode b_PatternBookModel_field 16 = .ok (.iload_n 1, 1) := by decide +kernel
theorem d_PatternBookModel_field_17 : decode b_PatternBookModel_field 17 = .ok (.iload 4, 2) := by decide +kernel
theorem d_PatternBookModel_field_19 : decode b_PatternBookModel_field 19 = .ok (.iadd, 1) := by decide +kernel
theorem d_PatternBookModel_field_20 : decode b_PatternBookModel_field 20 = .ok (.invokevirtual 51, 3) := by decide +kernel
theorem d_PatternBookModel_field_23 : decode b_PatternBookModel_field 23 = .ok (.iadd, 1) := by decide +kernel
theorem d_PatternBookModel_field_24 : decode b_PatternBookModel_field 24 = .ok (.istore_n 3, 1) := by decide +kernel
theorem d_PatternBookModel_field_25 : decode b_PatternBookModel_field 25 = .ok (.iinc 4 (-1), 3) := by decide +kernel
theorem d_PatternBookModel_field_28 : decode b_PatternBookModel_field 28 = .ok (.goto (-21), 3) := by decide +kernel
theorem d_PatternBookModel_field_31 : decode b_PatternBookModel_field 31 = .ok (.iload_n 3, 1) := by decide +kernel
theorem d_PatternBookModel_field_32 : decode b_PatternBookModel_field 32 = .ok (.ireturn, 1) := by decide +kernel
theorem d_PatternBookModel_take_0 : decode b_PatternBookModel_take 0 = .ok (.aload_n 0, 1) := by decide +kernel
theorem d_PatternBookModel_take_1 : decode b_PatternBookModel_take 1 = .ok (.iconst 0, 1) := by decide +kernel
theorem d_PatternBookModel_take_2 : decode b_PatternBookModel_take 2 = .ok (.lconst 0, 1) := by decide +kernel
theorem d_PatternBookModel_take_3 : decode b_PatternBookModel_take 3 = .ok (.invokevirtual 36, 3) := by decide +kernel
theorem d_PatternBookModel_take_6 : decode b_PatternBookModel_take 6 = .ok (.iload_n 2, 1) := by decide +kernel
theorem d_PatternBookModel_take_7 : decode b_PatternBookModel_take 7 = .ok (.iconst 1, 1) := by decide +kernel
theorem d_PatternBookModel_take_8 : decode b_PatternBookModel_take 8 = .ok (.isub, 1) := by decide +kernel
theorem d_PatternBookModel_take_9 : decode b_PatternBookModel_take 9 = .ok (.istore_n 3, 1) := by decide +kernel
theorem d_PatternBookModel_take_10 : decode b_PatternBookModel_take 10 = .ok (.iload_n 3, 1) := by decide +kernel
theorem d_PatternBookModel_take_11 : decode b_PatternBookModel_take 11 = .ok (.ifCond .lt 22, 3) := by decide +kernel
theorem d_PatternBookModel_take_14 : decode b_PatternBookModel_take 14 = .ok (.aload_n 0, 1) := by decide +kernel
theorem d_PatternBookModel_take_15 : decode b_PatternBookModel_take 15 = .ok (.iconst 0, 1) := by decide +kernel
theorem d_PatternBookModel_take_16 : decode b_PatternBookModel_take 16 = .ok (.iconst 2, 1) := by decide +kernel
theorem d_PatternBookModel_take_17 : decode b_PatternBookModel_take 17 = .ok (.aload_n 0, 1) := by decide +kernel
theorem d_PatternBookModel_take_18 : decode b_PatternBookModel_take 18 = .ok (.iload_n 1, 1) := by decide +kernel
theorem d_PatternBookModel_take_19 : decode b_PatternBookModel_take 19 = .ok (.iload_n 3, 1) := by decide +kernel
theorem d_PatternBookModel_take_20 : decode b_PatternBookModel_take 20 = .ok (.iadd, 1) := by decide +kernel
theorem d_PatternBookModel_take_21 : decode b_PatternBookModel_take 21 = .ok (.invokevirtual 51, 3) := by decide +kernel
theorem d_PatternBookModel_take_24 : decode b_PatternBookModel_take 24 = .ok (.invokevirtual 40, 3) := by decide +kernel
theorem d_PatternBookModel_take_27 : decode b_PatternBookModel_take 27 = .ok (.iinc 3 (-1), 3) := by decide +kernel
theorem d_PatternBookModel_take_30 : decode b_PatternBookModel_take 30 = .ok (.goto (-20), 3) := by decide +kernel
theorem d_PatternBookModel_take_33 : decode b_PatternBookModel_take 33 = .ok (.return_, 1) := by decide +kernel
theorem d_PatternBookModel_set_0 : decode b_PatternBookModel_set 0 = .ok (.iload_n 1, 1) := by decide +kernel
theorem d_PatternBookModel_set_1 : decode b_PatternBookModel_set 1 = .ok (.bipush 64, 2) := by decide +kernel
theorem d_PatternBookModel_set_3 : decode b_PatternBookModel_set 3 = .ok (.if_icmp .ge 19, 3) := by decide +kernel
theorem d_PatternBookModel_set_6 : decode b_PatternBookModel_set 6 = .ok (.aload_n 0, 1) := by decide +kernel
theorem d_PatternBookModel_set_7 : decode b_PatternBookModel_set 7 = .ok (.dup, 1) := by decide +kernel
theorem d_PatternBookModel_set_8 : decode b_PatternBookModel_set 8 = .ok (.getfield 44, 3) := by decide +kernel
theorem d_PatternBookModel_set_11 : decode b_PatternBookModel_set 11 = .ok (.iload_n 2, 1) := by decide +kernel
theorem d_PatternBookModel_set_12 : decode b_PatternBookModel_set 12 = .ok (.i2l, 1) := by decide +kernel
theorem d_PatternBookModel_set_13 : decode b_PatternBookModel_set 13 = .ok (.iload_n 1, 1) := by decide +kernel
theorem d_PatternBookModel_set_14 : decode b_PatternBookModel_set 14 = .ok (.lshl, 1) := by decide +kernel
theorem d_PatternBookModel_set_15 : decode b_PatternBookModel_set 15 = .ok (.lor, 1) := by decide +kernel
theorem d_PatternBookModel_set_16 : decode b_PatternBookModel_set 16 = .ok (.putfield 44, 3) := by decide +kernel
theorem d_PatternBookModel_set_19 : decode b_PatternBookModel_set 19 = .ok (.goto 19, 3) := by decide +kernel
theorem d_PatternBookModel_set_22 : decode b_PatternBookModel_set 22 = .ok (.aload_n 0, 1) := by decide +kernel
theorem d_PatternBookModel_set_23 : decode b_PatternBookModel_set 23 = .ok (.dup, 1) := by decide +kernel
theorem d_PatternBookModel_set_24 : decode b_PatternBookModel_set 24 = .ok (.getfield 48, 3) := by decide +kernel
theorem d_PatternBookModel_set_27 : decode b_PatternBookModel_set 27 = .ok (.iload_n 2, 1) := by decide +kernel
theorem d_PatternBookModel_set_28 : decode b_PatternBookModel_set 28 = .ok (.i2l, 1) := by decide +kernel
theorem d_PatternBookModel_set_29 : decode b_PatternBookModel_set 29 = .ok (.iload_n 1, 1) := by decide +kernel
theorem d_PatternBookModel_set_30 : decode b_PatternBookModel_set 30 = .ok (.bipush 64, 2) := by decide +kernel
theorem d_PatternBookModel_set_32 : decode b_PatternBookModel_set 32 = .ok (.isub, 1) := by decide +kernel
theorem d_PatternBookModel_set_33 : decode b_PatternBookModel_set 33 = .ok (.lshl, 1) := by decide +kernel
theorem d_PatternBookModel_set_34 : decode b_PatternBookModel_set 34 = .ok (.lor, 1) := by decide +kernel
theorem d_PatternBookModel_set_35 : decode b_PatternBookModel_set 35 = .ok (.putfield 48, 3) := by decide +kernel
theorem d_PatternBookModel_set_38 : decode b_PatternBookModel_set 38 = .ok (.return_, 1) := by decide +kernel
theorem d_PatternBookModel_lay_0 : decode b_PatternBookModel_lay 0 = .ok (.iconst 0, 1) := by decide +kernel
theorem d_PatternBookModel_lay_1 : decode b_PatternBookModel_lay 1 = .ok (.istore 4, 2) := by decide +kernel
theorem d_PatternBookModel_lay_3 : decode b_PatternBookModel_lay 3 = .ok (.iload 4, 2) := by decide +kernel
theorem d_PatternBookModel_lay_5 : decode b_PatternBookModel_lay 5 = .ok (.iload_n 3, 1) := by decide +kernel
theorem d_PatternBookModel_lay_6 : decode b_PatternBookModel_lay 6 = .ok (.if_icmp .ge 23, 3) := by decide +kernel
theorem d_PatternBookModel_lay_9 : decode b_PatternBookModel_lay 9 = .ok (.aload_n 0, 1) := by decide +kernel
theorem d_PatternBookModel_lay_10 : decode b_PatternBookModel_lay 10 = .ok (.iload_n 2, 1) := by decide +kernel
theorem d_PatternBookModel_lay_11 : decode b_PatternBookModel_lay 11 = .ok (.iload 4, 2) := by decide +kernel
theorem d_PatternBookModel_lay_13 : decode b_PatternBookModel_lay 13 = .ok (.iadd, 1) := by decide +kernel
theorem d_PatternBookModel_lay_14 : decode b_PatternBookModel_lay 14 = .ok (.iload_n 1, 1) := by decide +kernel
theorem d_PatternBookModel_lay_15 : decode b_PatternBookModel_lay 15 = .ok (.iload 4, 2) := by decide +kernel
theorem d_PatternBookModel_lay_17 : decode b_PatternBookModel_lay 17 = .ok (.ishr, 1) := by decide +kernel
theorem d_PatternBookModel_lay_18 : decode b_PatternBookModel_lay 18 = .ok (.iconst 1, 1) := by decide +kernel
theorem d_PatternBookModel_lay_19 : decode b_PatternBookModel_lay 19 = .ok (.iand, 1) := by decide +kernel
theorem d_PatternBookModel_lay_20 : decode b_PatternBookModel_lay 20 = .ok (.invokevirtual 54, 3) := by decide +kernel
theorem d_PatternBookModel_lay_23 : decode b_PatternBookModel_lay 23 = .ok (.iinc 4 1, 3) := by decide +kernel
theorem d_PatternBookModel_lay_26 : decode b_PatternBookModel_lay 26 = .ok (.goto (-23), 3) := by decide +kernel
theorem d_PatternBookModel_lay_29 : decode b_PatternBookModel_lay 29 = .ok (.return_, 1) := by decide +kernel
theorem d_PatternBookModel_layNumber_0 : decode b_PatternBookModel_layNumber 0 = .ok (.iconst 0, 1) := by decide +kernel
theorem d_PatternBookModel_layNumber_1 : decode b_PatternBookModel_layNumber 1 = .ok (.istore_n 3, 1) := by decide +kernel
theorem d_PatternBookModel_layNumber_2 : decode b_PatternBookModel_layNumber 2 = .ok (.iload_n 3, 1) := by decide +kernel
theorem d_PatternBookModel_layNumber_3 : decode b_PatternBookModel_layNumber 3 = .ok (.iload_n 2, 1) := by decide +kernel
theorem d_PatternBookModel_layNumber_4 : decode b_PatternBookModel_layNumber 4 = .ok (.if_icmp .ge 22, 3) := by decide +kernel
theorem d_PatternBookModel_layNumber_7 : decode b_PatternBookModel_layNumber 7 = .ok (.aload_n 0, 1) := by decide +kernel
theorem d_PatternBookModel_layNumber_8 : decode b_PatternBookModel_layNumber 8 = .ok (.iload_n 1, 1) := by decide +kernel
theorem d_PatternBookModel_layNumber_9 : decode b_PatternBookModel_layNumber 9 = .ok (.iload_n 3, 1) := by decide +kernel
theorem d_PatternBookModel_layNumber_10 : decode b_PatternBookModel_layNumber 10 = .ok (.iadd, 1) := by decide +kernel
theorem d_PatternBookModel_layNumber_11 : decode b_PatternBookModel_layNumber 11 = .ok (.aload_n 0, 1) := by decide +kernel
theorem d_PatternBookModel_layNumber_12 : decode b_PatternBookModel_layNumber 12 = .ok (.iconst 0, 1) := by decide +kernel
theorem d_PatternBookModel_layNumber_13 : decode b_PatternBookModel_layNumber 13 = .ok (.iload_n 3, 1) := by decide +kernel
theorem d_PatternBookModel_layNumber_14 : decode b_PatternBookModel_layNumber 14 = .ok (.invokevirtual 58, 3) := by decide +kernel
theorem d_PatternBookModel_layNumber_17 : decode b_PatternBookModel_layNumber 17 = .ok (.invokevirtual 54, 3) := by decide +kernel
theorem d_PatternBookModel_layNumber_20 : decode b_PatternBookModel_layNumber 20 = .ok (.iinc 3 1, 3) := by decide +kernel
theorem d_PatternBookModel_layNumber_23 : decode b_PatternBookModel_layNumber 23 = .ok (.goto (-21), 3) := by decide +kernel
theorem d_PatternBookModel_layNumber_26 : decode b_PatternBookModel_layNumber 26 = .ok (.return_, 1) := by decide +kernel
theorem d_PatternBookModel_mask_0 : decode b_PatternBookModel_mask 0 = .ok (.iload_n 1, 1) := by decide +kernel
theorem d_PatternBookModel_mask_1 : decode b_PatternBookModel_mask 1 = .ok (.invokestatic 66, 3) := by decide +kernel
theorem d_PatternBookModel_mask_4 : decode b_PatternBookModel_mask 4 = .ok (.istore_n 2, 1) := by decide +kernel
theorem d_PatternBookModel_mask_5 : decode b_PatternBookModel_mask 5 = .ok (.iload_n 2, 1) := by decide +kernel
theorem d_PatternBookModel_mask_6 : decode b_PatternBookModel_mask 6 = .ok (.sipush 128, 3) := by decide +kernel
theorem d_PatternBookModel_mask_9 : decode b_PatternBookModel_mask 9 = .ok (.if_icmp .ge 8, 3) := by decide +kernel
theorem d_PatternBookModel_mask_12 : decode b_PatternBookModel_mask 12 = .ok (.aload_n 0, 1) := by decide +kernel
theorem d_PatternBookModel_mask_13 : decode b_PatternBookModel_mask 13 = .ok (.lconst 0, 1) := by decide +kernel
theorem d_PatternBookModel_mask_14 : decode b_PatternBookModel_mask 14 = .ok (.putfield 48, 3) := by decide +kernel
theorem d_PatternBookModel_mask_17 : decode b_PatternBookModel_mask 17 = .ok (.iload_n 2, 1) := by decide +kernel
theorem d_PatternBookModel_mask_18 : decode b_PatternBookModel_mask 18 = .ok (.bipush 64, 2) := by decide +kernel
theorem d_PatternBookModel_mask_20 : decode b_PatternBookModel_mask 20 = .ok (.if_icmp .ge 17, 3) := by decide +kernel
theorem d_PatternBookModel_mask_23 : decode b_PatternBookModel_mask 23 = .ok (.aload_n 0, 1) := by decide +kernel
theorem d_PatternBookModel_mask_24 : decode b_PatternBookModel_mask 24 = .ok (.dup, 1) := by decide +kernel
theorem d_PatternBookModel_mask_25 : decode b_PatternBookModel_mask 25 = .ok (.getfield 44, 3) := by decide +kernel
theorem d_PatternBookModel_mask_28 : decode b_PatternBookModel_mask 28 = .ok (.lconst 1, 1) := by decide +kernel
theorem d_PatternBookModel_mask_29 : decode b_PatternBookModel_mask 29 = .ok (.iload_n 2, 1) := by decide +kernel
theorem d_PatternBookModel_mask_30 : decode b_PatternBookModel_mask 30 = .ok (.lshl, 1) := by decide +kernel
theorem d_PatternBookModel_mask_31 : decode b_PatternBookModel_mask 31 = .ok (.lconst 1, 1) := by decide +kernel
theorem d_PatternBookModel_mask_32 : decode b_PatternBookModel_mask 32 = .ok (.lsub, 1) := by decide +kernel
theorem d_PatternBookModel_mask_33 : decode b_PatternBookModel_mask 33 = .ok (.land, 1) := by decide +kernel
theorem d_PatternBookModel_mask_34 : decode b_PatternBookModel_mask 34 = .ok (.putfield 44, 3) := by decide +kernel
theorem d_PatternBookModel_mask_37 : decode b_PatternBookModel_mask 37 = .ok (.return_, 1) := by decide +kernel
theorem d_PatternBookModel_takeAtMost_0 : decode b_PatternBookModel_takeAtMost 0 = .ok (.aload_n 0, 1) := by decide +kernel
theorem d_PatternBookModel_takeAtMost_1 : decode b_PatternBookModel_takeAtMost 1 = .ok (.iconst 0, 1) := by decide +kernel
