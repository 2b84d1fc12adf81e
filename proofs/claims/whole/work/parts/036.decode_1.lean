theorem d_java_lang_Long_compare_0 : decode b_java_lang_Long_compare 0 = .ok (.lload_n 0, 1) := by decide +kernel
theorem d_java_lang_Long_compare_1 : decode b_java_lang_Long_compare 1 = .ok (.lload_n 2, 1) := by decide +kernel
theorem d_java_lang_Long_compare_2 : decode b_java_lang_Long_compare 2 = .ok (.lcmp, 1) := by decide +kernel
theorem d_java_lang_Long_compare_3 : decode b_java_lang_Long_compare 3 = .ok (.ifCond .ge 7, 3) := by decide +kernel
theorem d_java_lang_Long_compare_6 : decode b_java_lang_Long_compare 6 = .ok (.iconst (-1), 1) := by decide +kernel
theorem d_java_lang_Long_compare_7 : decode b_java_lang_Long_compare 7 = .ok (.goto 14, 3) := by decide +kernel
theorem d_java_lang_Long_compare_10 : decode b_java_lang_Long_compare 10 = .ok (.lload_n 0, 1) := by decide +kernel
theorem d_java_lang_Long_compare_11 : decode b_java_lang_Long_compare 11 = .ok (.lload_n 2, 1) := by decide +kernel
theorem d_java_lang_Long_compare_12 : decode b_java_lang_Long_compare 12 = .ok (.lcmp, 1) := by decide +kernel
theorem d_java_lang_Long_compare_13 : decode b_java_lang_Long_compare 13 = .ok (.ifCond .ne 7, 3) := by decide +kernel
theorem d_java_lang_Long_compare_16 : decode b_java_lang_Long_compare 16 = .ok (.iconst 0, 1) := by decide +kernel
theorem d_java_lang_Long_compare_17 : decode b_java_lang_Long_compare 17 = .ok (.goto 4, 3) := by decide +kernel
theorem d_java_lang_Long_compare_20 : decode b_java_lang_Long_compare 20 = .ok (.iconst 1, 1) := by decide +kernel
theorem d_java_lang_Long_compare_21 : decode b_java_lang_Long_compare 21 = .ok (.ireturn, 1) := by decide +kernel
theorem d_java_lang_Long_compareUnsigned_0 : decode b_java_lang_Long_compareUnsigned 0 = .ok (.lload_n 0, 1) := by decide +kernel
theorem d_java_lang_Long_compareUnsigned_1 : decode b_java_lang_Long_compareUnsigned 1 = .ok (.ldc2_w 168, 3) := by decide +kernel
theorem d_java_lang_Long_compareUnsigned_4 : decode b_java_lang_Long_compareUnsigned 4 = .ok (.ladd, 1) := by decide +kernel
theorem d_java_lang_Long_compareUnsigned_5 : decode b_java_lang_Long_compareUnsigned 5 = .ok (.lload_n 2, 1) := by decide +kernel
theorem d_java_lang_Long_compareUnsigned_6 : decode b_java_lang_Long_compareUnsigned 6 = .ok (.ldc2_w 168, 3) := by decide +kernel
theorem d_java_lang_Long_compareUnsigned_9 : decode b_java_lang_Long_compareUnsigned 9 = .ok (.ladd, 1) := by decide +kernel
theorem d_java_lang_Long_compareUnsigned_10 : decode b_java_lang_Long_compareUnsigned 10 = .ok (.invokestatic 302, 3) := by decide +kernel
theorem d_java_lang_Long_compareUnsigned_13 : decode b_java_lang_Long_compareUnsigned 13 = .ok (.ireturn, 1) := by decide +kernel
theorem d_PatternBook_Wide_init_0 : decode b_PatternBook_Wide_init 0 = .ok (.aload_n 0, 1) := by decide +kernel
theorem d_PatternBook_Wide_init_1 : decode b_PatternBook_Wide_init 1 = .ok (.invokespecial 1, 3) := by decide +kernel
theorem d_PatternBook_Wide_init_4 : decode b_PatternBook_Wide_init 4 = .ok (.return_, 1) := by decide +kernel
theorem d_PatternBook_Wide_ones_0 : decode b_PatternBook_Wide_ones 0 = .ok (.lconst 1, 1) := by decide +kernel
theorem d_PatternBook_Wide_ones_1 : decode b_PatternBook_Wide_ones 1 = .ok (.iload_n 0, 1) := by decide +kernel
theorem d_PatternBook_Wide_ones_2 : decode b_PatternBook_Wide_ones 2 = .ok (.lshl, 1) := by decide +kernel
theorem d_PatternBook_Wide_ones_3 : decode b_PatternBook_Wide_ones 3 = .ok (.lconst 1, 1) := by decide +kernel
theorem d_PatternBook_Wide_ones_4 : decode b_PatternBook_Wide_ones 4 = .ok (.lsub, 1) := by decide +kernel
theorem d_PatternBook_Wide_ones_5 : decode b_PatternBook_Wide_ones 5 = .ok (.lreturn, 1) := by decide +kernel
theorem d_PatternBook_Wide_set_0 : decode b_PatternBook_Wide_set 0 = .ok (.aload_n 0, 1) := by decide +kernel
theorem d_PatternBook_Wide_set_1 : decode b_PatternBook_Wide_set 1 = .ok (.lload_n 1, 1) := by decide +kernel
theorem d_PatternBook_Wide_set_2 : decode b_PatternBook_Wide_set 2 = .ok (.putfield 7, 3) := by decide +kernel
theorem d_PatternBook_Wide_set_5 : decode b_PatternBook_Wide_set 5 = .ok (.aload_n 0, 1) := by decide +kernel
theorem d_PatternBook_Wide_set_6 : decode b_PatternBook_Wide_set 6 = .ok (.lload_n 3, 1) := by decide +kernel
theorem d_PatternBook_Wide_set_7 : decode b_PatternBook_Wide_set 7 = .ok (.putfield 13, 3) := by decide +kernel
theorem d_PatternBook_Wide_set_10 : decode b_PatternBook_Wide_set 10 = .ok (.return_, 1) := by decide +kernel
theorem d_PatternBook_Wide_copy_0 : decode b_PatternBook_Wide_copy 0 = .ok (.aload_n 0, 1) := by decide +kernel
theorem d_PatternBook_Wide_copy_1 : decode b_PatternBook_Wide_copy 1 = .ok (.aload_n 1, 1) := by decide +kernel
theorem d_PatternBook_Wide_copy_2 : decode b_PatternBook_Wide_copy 2 = .ok (.getfield 7, 3) := by decide +kernel
theorem d_PatternBook_Wide_copy_5 : decode b_PatternBook_Wide_copy 5 = .ok (.aload_n 1, 1) := by decide +kernel
theorem d_PatternBook_Wide_copy_6 : decode b_PatternBook_Wide_copy 6 = .ok (.getfield 13, 3) := by decide +kernel
theorem d_PatternBook_Wide_copy_9 : decode b_PatternBook_Wide_copy 9 = .ok (.invokevirtual 16, 3) := by decide +kernel
theorem d_PatternBook_Wide_copy_12 : decode b_PatternBook_Wide_copy 12 = .ok (.return_, 1) := by decide +kernel
theorem d_PatternBook_Wide_half_0 : decode b_PatternBook_Wide_half 0 = .ok (.iload_n 1, 1) := by decide +kernel
theorem d_PatternBook_Wide_half_1 : decode b_PatternBook_Wide_half 1 = .ok (.ifCond .eq 10, 3) := by decide +kernel
theorem d_PatternBook_Wide_half_4 : decode b_PatternBook_Wide_half 4 = .ok (.aload_n 0, 1) := by decide +kernel
theorem d_PatternBook_Wide_half_5 : decode b_PatternBook_Wide_half 5 = .ok (.getfield 7, 3) := by decide +kernel
theorem d_PatternBook_Wide_half_8 : decode b_PatternBook_Wide_half 8 = .ok (.goto 7, 3) := by decide +kernel
theorem d_PatternBook_Wide_half_11 : decode b_PatternBook_Wide_half 11 = .ok (.aload_n 0, 1) := by decide +kernel
theorem d_PatternBook_Wide_half_12 : decode b_PatternBook_Wide_half 12 = .ok (.getfield 13, 3) := by decide +kernel
theorem d_PatternBook_Wide_half_15 : decode b_PatternBook_Wide_half 15 = .ok (.lreturn, 1) := by decide +kernel
theorem d_PatternBook_Wide_isZero_0 : decode b_PatternBook_Wide_isZero 0 = .ok (.aload_n 0, 1) := by decide +kernel
theorem d_PatternBook_Wide_isZero_1 : decode b_PatternBook_Wide_isZero 1 = .ok (.getfield 7, 3) := by decide +kernel
theorem d_PatternBook_Wide_isZero_4 : decode b_PatternBook_Wide_isZero 4 = .ok (.lconst 0, 1) := by decide +kernel
theorem d_PatternBook_Wide_isZero_5 : decode b_PatternBook_Wide_isZero 5 = .ok (.lcmp, 1) := by decide +kernel
theorem d_PatternBook_Wide_isZero_6 : decode b_PatternBook_Wide_isZero 6 = .ok (.ifCond .ne 16, 3) := by decide +kernel
theorem d_PatternBook_Wide_isZero_9 : decode b_PatternBook_Wide_isZero 9 = .ok (.aload_n 0, 1) := by decide +kernel
theorem d_PatternBook_Wide_isZero_10 : decode b_PatternBook_Wide_isZero 10 = .ok (.getfield 13, 3) := by decide +kernel
theorem d_PatternBook_Wide_isZero_13 : decode b_PatternBook_Wide_isZero 13 = .ok (.lconst 0, 1) := by decide +kernel
theorem d_PatternBook_Wide_isZero_14 : decode b_PatternBook_Wide_isZero 14 = .ok (.lcmp, 1) := by decide +kernel
theorem d_PatternBook_Wide_isZero_15 : decode b_PatternBook_Wide_isZero 15 = .ok (.ifCond .ne 7, 3) := by decide +kernel
theorem d_PatternBook_Wide_isZero_18 : decode b_PatternBook_Wide_isZero 18 = .ok (.iconst 1, 1) := by decide +kernel
theorem d_PatternBook_Wide_isZero_19 : decode b_PatternBook_Wide_isZero 19 = .ok (.goto 4, 3) := by decide +kernel
theorem d_PatternBook_Wide_isZero_22 : decode b_PatternBook_Wide_isZero 22 = .ok (.iconst 0, 1) := by decide +kernel
theorem d_PatternBook_Wide_isZero_23 : decode b_PatternBook_Wide_isZero 23 = .ok (.ireturn, 1) := by decide +kernel
theorem d_PatternBook_Wide_isSame_0 : decode b_PatternBook_Wide_isSame 0 = .ok (.aload_n 0, 1) := by decide +kernel
theorem d_PatternBook_Wide_isSame_1 : decode b_PatternBook_Wide_isSame 1 = .ok (.getfield 7, 3) := by decide +kernel
theorem d_PatternBook_Wide_isSame_4 : decode b_PatternBook_Wide_isSame 4 = .ok (.aload_n 1, 1) := by decide +kernel
theorem d_PatternBook_Wide_isSame_5 : decode b_PatternBook_Wide_isSame 5 = .ok (.getfield 7, 3) := by decide +kernel
theorem d_PatternBook_Wide_isSame_8 : decode b_PatternBook_Wide_isSame 8 = .ok (.lcmp, 1) := by decide +kernel
theorem d_PatternBook_Wide_isSame_9 : decode b_PatternBook_Wide_isSame 9 = .ok (.ifCond .ne 19, 3) := by decide +kernel
theorem d_PatternBook_Wide_isSame_12 : decode b_PatternBook_Wide_isSame 12 = .ok (.aload_n 0, 1) := by decide +kernel
theorem d_PatternBook_Wide_isSame_13 : decode b_PatternBook_Wide_isSame 13 = .ok (.getfield 13, 3) := by decide +kernel
theorem d_PatternBook_Wide_isSame_16 : decode b_PatternBook_Wide_isSame 16 = .ok (.aload_n 1, 1) := by decide +kernel
theorem d_PatternBook_Wide_isSame_17 : decode b_PatternBook_Wide_isSame 17 = .ok (.getfield 13, 3) := by decide +kernel
theorem d_PatternBook_Wide_isSame_20 : decode b_PatternBook_Wide_isSame 20 = .ok (.lcmp, 1) := by decide +kernel
theorem d_PatternBook_Wide_isSame_21 : decode b_PatternBook_Wide_isSame 21 = .ok (.ifCond .ne 7, 3) := by decide +kernel
theorem d_PatternBook_Wide_isSame_24 : decode b_PatternBook_Wide_isSame 24 = .ok (.iconst 1, 1) := by decide +kernel
theorem d_PatternBook_Wide_isSame_25 : decode b_PatternBook_Wide_isSame 25 = .ok (.goto 4, 3) := by decide +kernel
theorem d_PatternBook_Wide_isSame_28 : decode b_PatternBook_Wide_isSame 28 = .ok (.iconst 0, 1) := by decide +kernel
theorem d_PatternBook_Wide_isSame_29 : decode b_PatternBook_Wide_isSame 29 = .ok (.ireturn, 1) := by decide +kernel
theorem d_PatternBook_Wide_isAbove_0 : decode b_PatternBook_Wide_isAbove 0 = .ok (.aload_n 0, 1) := by decide +kernel
theorem d_PatternBook_Wide_isAbove_1 : decode b_PatternBook_Wide_isAbove 1 = .ok (.getfield 7, 3) := by decide +kernel
theorem d_PatternBook_Wide_isAbove_4 : decode b_PatternBook_Wide_isAbove 4 = .ok (.aload_n 1, 1) := by decide +kernel
theorem d_PatternBook_Wide_isAbove_5 : decode b_PatternBook_Wide_isAbove 5 = .ok (.getfield 7, 3) := by decide +kernel
theorem d_PatternBook_Wide_isAbove_8 : decode b_PatternBook_Wide_isAbove 8 = .ok (.lcmp, 1) := by decide +kernel
theorem d_PatternBook_Wide_isAbove_9 : decode b_PatternBook_Wide_isAbove 9 = .ok (.ifCond .ne 23, 3) := by decide +kernel
theorem d_PatternBook_Wide_isAbove_12 : decode b_PatternBook_Wide_isAbove 12 = .ok (.aload_n 0, 1) := by decide +kernel
theorem d_PatternBook_Wide_isAbove_13 : decode b_PatternBook_Wide_isAbove 13 = .ok (.getfield 13, 3) := by decide +kernel
theorem d_PatternBook_Wide_isAbove_16 : decode b_PatternBook_Wide_isAbove 16 = .ok (.aload_n 1, 1) := by decide +kernel
theorem d_PatternBook_Wide_isAbove_17 : decode b_PatternBook_Wide_isAbove 17 = .ok (.getfield 13, 3) := by decide +kernel
theorem d_PatternBook_Wide_isAbove_20 : decode b_PatternBook_Wide_isAbove 20 = .ok (.invokestatic 20, 3) := by decide +kernel
theorem d_PatternBook_Wide_isAbove_23 : decode b_PatternBook_Wide_isAbove 23 = .ok (.ifCond .le 7, 3) := by decide +kernel
theorem d_PatternBook_Wide_isAbove_26 : decode b_PatternBook_Wide_isAbove 26 = .ok (.iconst 1, 1) := by decide +kernel
theorem d_PatternBook_Wide_isAbove_27 : decode b_PatternBook_Wide_isAbove 27 = .ok (.goto 4, 3) := by decide +kernel
theorem d_PatternBook_Wide_isAbove_30 : decode b_PatternBook_Wide_isAbove 30 = .ok (.iconst 0, 1) := by decide +kernel
theorem d_PatternBook_Wide_isAbove_31 : decode b_PatternBook_Wide_isAbove 31 = .ok (.ireturn, 1) := by decide +kernel
theorem d_PatternBook_Wide_isAbove_32 : decode b_PatternBook_Wide_isAbove 32 = .ok (.aload_n 0, 1) := by decide +kernel
theorem d_PatternBook_Wide_isAbove_33 : decode b_PatternBook_Wide_isAbove 33 = .ok (.getfield 7, 3) := by decide +kernel
theorem d_PatternBook_Wide_isAbove_36 : decode b_PatternBook_Wide_isAbove 36 = .ok (.aload_n 1, 1) := by decide +kernel
theorem d_PatternBook_Wide_isAbove_37 : decode b_PatternBook_Wide_isAbove 37 = .ok (.getfield 7, 3) := by decide +kernel
theorem d_PatternBook_Wide_isAbove_40 : decode b_PatternBook_Wide_isAbove 40 = .ok (.invokestatic 20, 3) := by decide +kernel
theorem d_PatternBook_Wide_isAbove_43 : decode b_PatternBook_Wide_isAbove 43 = .ok (.ifCond .le 7, 3) := by decide +kernel
theorem d_PatternBook_Wide_isAbove_46 : decode b_PatternBook_Wide_isAbove 46 = .ok (.iconst 1, 1) := by decide +kernel
theorem d_PatternBook_Wide_isAbove_47 : decode b_PatternBook_Wide_isAbove 47 = .ok (.goto 4, 3) := by decide +kernel
theorem d_PatternBook_Wide_isAbove_50 : decode b_PatternBook_Wide_isAbove 50 = .ok (.iconst 0, 1) := by decide +kernel
theorem d_PatternBook_Wide_isAbove_51 : decode b_PatternBook_Wide_isAbove 51 = .ok (.ireturn, 1) := by decide +kernel
theorem d_PatternBook_Wide_fits_0 : decode b_PatternBook_Wide_fits 0 = .ok (.iload_n 1, 1) := by decide +kernel
theorem d_PatternBook_Wide_fits_1 : decode b_PatternBook_Wide_fits 1 = .ok (.bipush 64, 2) := by decide +kernel
theorem d_PatternBook_Wide_fits_3 : decode b_PatternBook_Wide_fits 3 = .ok (.if_icmp .lt 23, 3) := by decide +kernel
theorem d_PatternBook_Wide_fits_6 : decode b_PatternBook_Wide_fits 6 = .ok (.aload_n 0, 1) := by decide +kernel
theorem d_PatternBook_Wide_fits_7 : decode b_PatternBook_Wide_fits 7 = .ok (.getfield 7, 3) := by decide +kernel
theorem d_PatternBook_Wide_fits_10 : decode b_PatternBook_Wide_fits 10 = .ok (.iload_n 1, 1) := by decide +kernel
theorem d_PatternBook_Wide_fits_11 : decode b_PatternBook_Wide_fits 11 = .ok (.bipush 64, 2) := by decide +kernel
theorem d_PatternBook_Wide_fits_13 : decode b_PatternBook_Wide_fits 13 = .ok (.isub, 1) := by decide +kernel
theorem d_PatternBook_Wide_fits_14 : decode b_PatternBook_Wide_fits 14 = .ok (.lushr, 1) := by decide +kernel
theorem d_PatternBook_Wide_fits_15 : decode b_PatternBook_Wide_fits 15 = .ok (.lconst 0, 1) := by decide +kernel
theorem d_PatternBook_Wide_fits_16 : decode b_PatternBook_Wide_fits 16 = .ok (.lcmp, 1) := by decide +kernel
theorem d_PatternBook_Wide_fits_17 : decode b_PatternBook_Wide_fits 17 = .ok (.ifCond .ne 7, 3) := by decide +kernel
theorem d_PatternBook_Wide_fits_20 : decode b_PatternBook_Wide_fits 20 = .ok (.iconst 1, 1) := by decide +kernel
theorem d_PatternBook_Wide_fits_21 : decode b_PatternBook_Wide_fits 21 = .ok (.goto 4, 3) := by decide +kernel
theorem d_PatternBook_Wide_fits_24 : decode b_PatternBook_Wide_fits 24 = .ok (.iconst 0, 1) := by decide +kernel
theorem d_PatternBook_Wide_fits_25 : decode b_PatternBook_Wide_fits 25 = .ok (.ireturn, 1) := by decide +kernel
theorem d_PatternBook_Wide_fits_26 : decode b_PatternBook_Wide_fits 26 = .ok (.aload_n 0, 1) := by decide +kernel
theorem d_PatternBook_Wide_fits_27 : decode b_PatternBook_Wide_fits 27 = .ok (.getfield 7, 3) := by decide +kernel
theorem d_PatternBook_Wide_fits_30 : decode b_PatternBook_Wide_fits 30 = .ok (.lconst 0, 1) := by decide +kernel
theorem d_PatternBook_Wide_fits_31 : decode b_PatternBook_Wide_fits 31 = .ok (.lcmp, 1) := by decide +kernel
theorem d_PatternBook_Wide_fits_32 : decode b_PatternBook_Wide_fits 32 = .ok (.ifCond .ne 18, 3) := by decide +kernel
theorem d_PatternBook_Wide_fits_35 : decode b_PatternBook_Wide_fits 35 = .ok (.aload_n 0, 1) := by decide +kernel
theorem d_PatternBook_Wide_fits_36 : decode b_PatternBook_Wide_fits 36 = .ok (.getfield 13, 3) := by decide +kernel
theorem d_PatternBook_Wide_fits_39 : decode b_PatternBook_Wide_fits 39 = .ok (.iload_n 1, 1) := by decide +kernel
theorem d_PatternBook_Wide_fits_40 : decode b_PatternBook_Wide_fits 40 = .ok (.lushr, 1) := by decide +kernel
theorem d_PatternBook_Wide_fits_41 : decode b_PatternBook_Wide_fits 41 = .ok (.lconst 0, 1) := by decide +kernel
theorem d_PatternBook_Wide_fits_42 : decode b_PatternBook_Wide_fits 42 = .ok (.lcmp, 1) := by decide +kernel
theorem d_PatternBook_Wide_fits_43 : decode b_PatternBook_Wide_fits 43 = .ok (.ifCond .ne 7, 3) := by decide +kernel
theorem d_PatternBook_Wide_fits_46 : decode b_PatternBook_Wide_fits 46 = .ok (.iconst 1, 1) := by decide +kernel
theorem d_PatternBook_Wide_fits_47 : decode b_PatternBook_Wide_fits 47 = .ok (.goto 4, 3) := by decide +kernel
theorem d_PatternBook_Wide_fits_50 : decode b_PatternBook_Wide_fits 50 = .ok (.iconst 0, 1) := by decide +kernel
theorem d_PatternBook_Wide_fits_51 : decode b_PatternBook_Wide_fits 51 = .ok (.ireturn, 1) := by decide +kernel
theorem d_PatternBook_Wide_keepLowest_0 : decode b_PatternBook_Wide_keepLowest 0 = .ok (.iload_n 1, 1) := by decide +kernel
theorem d_PatternBook_Wide_keepLowest_1 : decode b_PatternBook_Wide_keepLowest 1 = .ok (.sipush 128, 3) := by decide +kernel
theorem d_PatternBook_Wide_keepLowest_4 : decode b_PatternBook_Wide_keepLowest 4 = .ok (.if_icmp .lt 4, 3) := by decide +kernel
theorem d_PatternBook_Wide_keepLowest_7 : decode b_PatternBook_Wide_keepLowest 7 = .ok (.return_, 1) := by decide +kernel
theorem d_PatternBook_Wide_keepLowest_8 : decode b_PatternBook_Wide_keepLowest 8 = .ok (.iload_n 1, 1) := by decide +kernel
theorem d_PatternBook_Wide_keepLowest_9 : decode b_PatternBook_Wide_keepLowest 9 = .ok (.bipush 64, 2) := by decide +kernel
theorem d_PatternBook_Wide_keepLowest_11 : decode b_PatternBook_Wide_keepLowest 11 = .ok (.if_icmp .lt 22, 3) := by decide +kernel
theorem d_PatternBook_Wide_keepLowest_14 : decode b_PatternBook_Wide_keepLowest 14 = .ok (.aload_n 0, 1) := by decide +kernel
theorem d_PatternBook_Wide_keepLowest_15 : decode b_PatternBook_Wide_keepLowest 15 = .ok (.dup, 1) := by decide +kernel
theorem d_PatternBook_Wide_keepLowest_16 : decode b_PatternBook_Wide_keepLowest 16 = .ok (.getfield 7, 3) := by decide +kernel
theorem d_PatternBook_Wide_keepLowest_19 : decode b_PatternBook_Wide_keepLowest 19 = .ok (.iload_n 1, 1) := by decide +kernel
theorem d_PatternBook_Wide_keepLowest_20 : decode b_PatternBook_Wide_keepLowest 20 = .ok (.bipush 64, 2) := by decide +kernel
theorem d_PatternBook_Wide_keepLowest_22 : decode b_PatternBook_Wide_keepLowest 22 = .ok (.isub, 1) := by decide +kernel
theorem d_PatternBook_Wide_keepLowest_23 : decode b_PatternBook_Wide_keepLowest 23 = .ok (.invokestatic 26, 3) := by decide +kernel
theorem d_PatternBook_Wide_keepLowest_26 : decode b_PatternBook_Wide_keepLowest 26 = .ok (.land, 1) := by decide +kernel
theorem d_PatternBook_Wide_keepLowest_27 : decode b_PatternBook_Wide_keepLowest 27 = .ok (.putfield 7, 3) := by decide +kernel
theorem d_PatternBook_Wide_keepLowest_30 : decode b_PatternBook_Wide_keepLowest 30 = .ok (.goto 21, 3) := by decide +kernel
theorem d_PatternBook_Wide_keepLowest_33 : decode b_PatternBook_Wide_keepLowest 33 = .ok (.aload_n 0, 1) := by decide +kernel
theorem d_PatternBook_Wide_keepLowest_34 : decode b_PatternBook_Wide_keepLowest 34 = .ok (.lconst 0, 1) := by decide +kernel
theorem d_PatternBook_Wide_keepLowest_35 : decode b_PatternBook_Wide_keepLowest 35 = .ok (.putfield 7, 3) := by decide +kernel
theorem d_PatternBook_Wide_keepLowest_38 : decode b_PatternBook_Wide_keepLowest 38 = .ok (.aload_n 0, 1) := by decide +kernel
theorem d_PatternBook_Wide_keepLowest_39 : decode b_PatternBook_Wide_keepLowest 39 = .ok (.dup, 1) := by decide +kernel
theorem d_PatternBook_Wide_keepLowest_40 : decode b_PatternBook_Wide_keepLowest 40 = .ok (.getfield 13, 3) := by decide +kernel
theorem d_PatternBook_Wide_keepLowest_43 : decode b_PatternBook_Wide_keepLowest 43 = .ok (.iload_n 1, 1) := by decide +kernel
theorem d_PatternBook_Wide_keepLowest_44 : decode b_PatternBook_Wide_keepLowest 44 = .ok (.invokestatic 26, 3) := by decide +kernel
theorem d_PatternBook_Wide_keepLowest_47 : decode b_PatternBook_Wide_keepLowest 47 = .ok (.land, 1) := by decide +kernel
theorem d_PatternBook_Wide_keepLowest_48 : decode b_PatternBook_Wide_keepLowest 48 = .ok (.putfield 13, 3) := by decide +kernel
theorem d_PatternBook_Wide_keepLowest_51 : decode b_PatternBook_Wide_keepLowest 51 = .ok (.return_, 1) := by decide +kernel
theorem d_PatternBook_Wide_bitsAt_0 : decode b_PatternBook_Wide_bitsAt 0 = .ok (.iload_n 1, 1) := by decide +kernel
theorem d_PatternBook_Wide_bitsAt_1 : decode b_PatternBook_Wide_bitsAt 1 = .ok (.bipush 64, 2) := by decide +kernel
theorem d_PatternBook_Wide_bitsAt_3 : decode b_PatternBook_Wide_bitsAt 3 = .ok (.if_icmp .lt 16, 3) := by decide +kernel
theorem d_PatternBook_Wide_bitsAt_6 : decode b_PatternBook_Wide_bitsAt 6 = .ok (.aload_n 0, 1) := by decide +kernel
theorem d_PatternBook_Wide_bitsAt_7 : decode b_PatternBook_Wide_bitsAt 7 = .ok (.getfield 7, 3) := by decide +kernel
theorem d_PatternBook_Wide_bitsAt_10 : decode b_PatternBook_Wide_bitsAt 10 = .ok (.iload_n 1, 1) := by decide +kernel
theorem d_PatternBook_Wide_bitsAt_11 : decode b_PatternBook_Wide_bitsAt 11 = .ok (.bipush 64, 2) := by decide +kernel
theorem d_PatternBook_Wide_bitsAt_13 : decode b_PatternBook_Wide_bitsAt 13 = .ok (.isub, 1) := by decide +kernel
theorem d_PatternBook_Wide_bitsAt_14 : decode b_PatternBook_Wide_bitsAt 14 = .ok (.lushr, 1) := by decide +kernel
theorem d_PatternBook_Wide_bitsAt_15 : decode b_PatternBook_Wide_bitsAt 15 = .ok (.lstore_n 3, 1) := by decide +kernel
theorem d_PatternBook_Wide_bitsAt_16 : decode b_PatternBook_Wide_bitsAt 16 = .ok (.goto 32, 3) := by decide +kernel
theorem d_PatternBook_Wide_bitsAt_19 : decode b_PatternBook_Wide_bitsAt 19 = .ok (.iload_n 1, 1) := by decide +kernel
theorem d_PatternBook_Wide_bitsAt_20 : decode b_PatternBook_Wide_bitsAt 20 = .ok (.ifCond .ne 11, 3) := by decide +kernel
theorem d_PatternBook_Wide_bitsAt_23 : decode b_PatternBook_Wide_bitsAt 23 = .ok (.aload_n 0, 1) := by decide +kernel
theorem d_PatternBook_Wide_bitsAt_24 : decode b_PatternBook_Wide_bitsAt 24 = .ok (.getfield 13, 3) := by decide +kernel
theorem d_PatternBook_Wide_bitsAt_27 : decode b_PatternBook_Wide_bitsAt 27 = .ok (.lstore_n 3, 1) := by decide +kernel
theorem d_PatternBook_Wide_bitsAt_28 : decode b_PatternBook_Wide_bitsAt 28 = .ok (.goto 20, 3) := by decide +kernel
theorem d_PatternBook_Wide_bitsAt_31 : decode b_PatternBook_Wide_bitsAt 31 = .ok (.aload_n 0, 1) := by decide +kernel
theorem d_PatternBook_Wide_bitsAt_32 : decode b_PatternBook_Wide_bitsAt 32 = .ok (.getfield 13, 3) := by decide +kernel
theorem d_PatternBook_Wide_bitsAt_35 : decode b_PatternBook_Wide_bitsAt 35 = .ok (.iload_n 1, 1) := by decide +kernel
theorem d_PatternBook_Wide_bitsAt_36 : decode b_PatternBook_Wide_bitsAt 36 = .ok (.lushr, 1) := by decide +kernel
theorem d_PatternBook_Wide_bitsAt_37 : decode b_PatternBook_Wide_bitsAt 37 = .ok (.aload_n 0, 1) := by decide +kernel
theorem d_PatternBook_Wide_bitsAt_38 : decode b_PatternBook_Wide_bitsAt 38 = .ok (.getfield 7, 3) := by decide +kernel
theorem d_PatternBook_Wide_bitsAt_41 : decode b_PatternBook_Wide_bitsAt 41 = .ok (.bipush 64, 2) := by decide +kernel
theorem d_PatternBook_Wide_bitsAt_43 : decode b_PatternBook_Wide_bitsAt 43 = .ok (.iload_n 1, 1) := by decide +kernel
theorem d_PatternBook_Wide_bitsAt_44 : decode b_PatternBook_Wide_bitsAt 44 = .ok (.isub, 1) := by decide +kernel
theorem d_PatternBook_Wide_bitsAt_45 : decode b_PatternBook_Wide_bitsAt 45 = .ok (.lshl, 1) := by decide +kernel
theorem d_PatternBook_Wide_bitsAt_46 : decode b_PatternBook_Wide_bitsAt 46 = .ok (.lor, 1) := by decide +kernel
theorem d_PatternBook_Wide_bitsAt_47 : decode b_PatternBook_Wide_bitsAt 47 = .ok (.lstore_n 3, 1) := by decide +kernel
theorem d_PatternBook_Wide_bitsAt_48 : decode b_PatternBook_Wide_bitsAt 48 = .ok (.lload_n 3, 1) := by decide +kernel
theorem d_PatternBook_Wide_bitsAt_49 : decode b_PatternBook_Wide_bitsAt 49 = .ok (.iload_n 2, 1) := by decide +kernel
theorem d_PatternBook_Wide_bitsAt_50 : decode b_PatternBook_Wide_bitsAt 50 = .ok (.invokestatic 26, 3) := by decide +kernel
theorem d_PatternBook_Wide_bitsAt_53 : decode b_PatternBook_Wide_bitsAt 53 = .ok (.land, 1) := by decide +kernel
theorem d_PatternBook_Wide_bitsAt_54 : decode b_PatternBook_Wide_bitsAt 54 = .ok (.lreturn, 1) := by decide +kernel
theorem d_PatternBook_Wide_addBits_0 : decode b_PatternBook_Wide_addBits 0 = .ok (.iload_n 1, 1) := by decide +kernel
theorem d_PatternBook_Wide_addBits_1 : decode b_PatternBook_Wide_addBits 1 = .ok (.bipush 64, 2) := by decide +kernel
theorem d_PatternBook_Wide_addBits_3 : decode b_PatternBook_Wide_addBits 3 = .ok (.if_icmp .lt 19, 3) := by decide +kernel
theorem d_PatternBook_Wide_addBits_6 : decode b_PatternBook_Wide_addBits 6 = .ok (.aload_n 0, 1) := by decide +kernel
theorem d_PatternBook_Wide_addBits_7 : decode b_PatternBook_Wide_addBits 7 = .ok (.dup, 1) := by decide +kernel
theorem d_PatternBook_Wide_addBits_8 : decode b_PatternBook_Wide_addBits 8 = .ok (.getfield 7, 3) := by decide +kernel
theorem d_PatternBook_Wide_addBits_11 : decode b_PatternBook_Wide_addBits 11 = .ok (.lload_n 2, 1) := by decide +kernel
theorem d_PatternBook_Wide_addBits_12 : decode b_PatternBook_Wide_addBits 12 = .ok (.iload_n 1, 1) := by decide +kernel
theorem d_PatternBook_Wide_addBits_13 : decode b_PatternBook_Wide_addBits 13 = .ok (.bipush 64, 2) := by decide +kernel
theorem d_PatternBook_Wide_addBits_15 : decode b_PatternBook_Wide_addBits 15 = .ok (.isub, 1) := by decide +kernel
theorem d_PatternBook_Wide_addBits_16 : decode b_PatternBook_Wide_addBits 16 = .ok (.lshl, 1) := by decide +kernel
theorem d_PatternBook_Wide_addBits_17 : decode b_PatternBook_Wide_addBits 17 = .ok (.lor, 1) := by decide +kernel
theorem d_PatternBook_Wide_addBits_18 : decode b_PatternBook_Wide_addBits 18 = .ok (.putfield 7, 3) := by decide +kernel
theorem d_PatternBook_Wide_addBits_21 : decode b_PatternBook_Wide_addBits 21 = .ok (.return_, 1) := by decide +kernel
theorem d_PatternBook_Wide_addBits_22 : decode b_PatternBook_Wide_addBits 22 = .ok (.aload_n 0, 1) := by decide +kernel
theorem d_PatternBook_Wide_addBits_23 : decode b_PatternBook_Wide_addBits 23 = .ok (.dup, 1) := by decide +kernel
theorem d_PatternBook_Wide_addBits_24 : decode b_PatternBook_Wide_addBits 24 = .ok (.getfield 13, 3) := by decide +kernel
theorem d_PatternBook_Wide_addBits_27 : decode b_PatternBook_Wide_addBits 27 = .ok (.lload_n 2, 1) := by decide +kernel
theorem d_PatternBook_Wide_addBits_28 : decode b_PatternBook_Wide_addBits 28 = .ok (.iload_n 1, 1) := by decide +kernel
theorem d_PatternBook_Wide_addBits_29 : decode b_PatternBook_Wide_addBits 29 = .ok (.lshl, 1) := by decide +kernel
theorem d_PatternBook_Wide_addBits_30 : decode b_PatternBook_Wide_addBits 30 = .ok (.lor, 1) := by decide +kernel
theorem d_PatternBook_Wide_addBits_31 : decode b_PatternBook_Wide_addBits 31 = .ok (.putfield 13, 3) := by decide +kernel
theorem d_PatternBook_Wide_addBits_34 : decode b_PatternBook_Wide_addBits 34 = .ok (.iload_n 1, 1) := by decide +kernel
theorem d_PatternBook_Wide_addBits_35 : decode b_PatternBook_Wide_addBits 35 = .ok (.ifCond .le 18, 3) := by decide +kernel
theorem d_PatternBook_Wide_addBits_38 : decode b_PatternBook_Wide_addBits 38 = .ok (.aload_n 0, 1) := by decide +kernel
theorem d_PatternBook_Wide_addBits_39 : decode b_PatternBook_Wide_addBits 39 = .ok (.dup, 1) := by decide +kernel
theorem d_PatternBook_Wide_addBits_40 : decode b_PatternBook_Wide_addBits 40 = .ok (.getfield 7, 3) := by decide +kernel
theorem d_PatternBook_Wide_addBits_43 : decode b_PatternBook_Wide_addBits 43 = .ok (.lload_n 2, 1) := by decide +kernel
theorem d_PatternBook_Wide_addBits_44 : decode b_PatternBook_Wide_addBits 44 = .ok (.bipush 64, 2) := by decide +kernel
theorem d_PatternBook_Wide_addBits_46 : decode b_PatternBook_Wide_addBits 46 = .ok (.iload_n 1, 1) := by decide +kernel
theorem d_PatternBook_Wide_addBits_47 : decode b_PatternBook_Wide_addBits 47 = .ok (.isub, 1) := by decide +kernel
theorem d_PatternBook_Wide_addBits_48 : decode b_PatternBook_Wide_addBits 48 = .ok (.lushr, 1) := by decide +kernel
theorem d_PatternBook_Wide_addBits_49 : decode b_PatternBook_Wide_addBits 49 = .ok (.lor, 1) := by decide +kernel
theorem d_PatternBook_Wide_addBits_50 : decode b_PatternBook_Wide_addBits 50 = .ok (.putfield 7, 3) := by decide +kernel
theorem d_PatternBook_Wide_addBits_53 : decode b_PatternBook_Wide_addBits 53 = .ok (.return_, 1) := by decide +kernel
theorem d_PatternBook_Wide_timesPlus_0 : decode b_PatternBook_Wide_timesPlus 0 = .ok (.aload_n 0, 1) := by decide +kernel
theorem d_PatternBook_Wide_timesPlus_1 : decode b_PatternBook_Wide_timesPlus 1 = .ok (.getfield 13, 3) := by decide +kernel
theorem d_PatternBook_Wide_timesPlus_4 : decode b_PatternBook_Wide_timesPlus 4 = .ok (.ldc2_w 30, 3) := by decide +kernel
theorem d_PatternBook_Wide_timesPlus_7 : decode b_PatternBook_Wide_timesPlus 7 = .ok (.land, 1) := by decide +kernel
theorem d_PatternBook_Wide_timesPlus_8 : decode b_PatternBook_Wide_timesPlus 8 = .ok (.iload_n 1, 1) := by decide +kernel
theorem d_PatternBook_Wide_timesPlus_9 : decode b_PatternBook_Wide_timesPlus 9 = .ok (.i2l, 1) := by decide +kernel
theorem d_PatternBook_Wide_timesPlus_10 : decode b_PatternBook_Wide_timesPlus 10 = .ok (.lmul, 1) := by decide +kernel
theorem d_PatternBook_Wide_timesPlus_11 : decode b_PatternBook_Wide_timesPlus 11 = .ok (.iload_n 2, 1) := by decide +kernel
theorem d_PatternBook_Wide_timesPlus_12 : decode b_PatternBook_Wide_timesPlus 12 = .ok (.i2l, 1) := by decide +kernel
theorem d_PatternBook_Wide_timesPlus_13 : decode b_PatternBook_Wide_timesPlus 13 = .ok (.ladd, 1) := by decide +kernel
theorem d_PatternBook_Wide_timesPlus_14 : decode b_PatternBook_Wide_timesPlus 14 = .ok (.lstore_n 3, 1) := by decide +kernel
theorem d_PatternBook_Wide_timesPlus_15 : decode b_PatternBook_Wide_timesPlus 15 = .ok (.aload_n 0, 1) := by decide +kernel
theorem d_PatternBook_Wide_timesPlus_16 : decode b_PatternBook_Wide_timesPlus 16 = .ok (.getfield 13, 3) := by decide +kernel
theorem d_PatternBook_Wide_timesPlus_19 : decode b_PatternBook_Wide_timesPlus 19 = .ok (.bipush 32, 2) := by decide +kernel
theorem d_PatternBook_Wide_timesPlus_21 : decode b_PatternBook_Wide_timesPlus 21 = .ok (.lushr, 1) := by decide +kernel
theorem d_PatternBook_Wide_timesPlus_22 : decode b_PatternBook_Wide_timesPlus 22 = .ok (.iload_n 1, 1) := by decide +kernel
theorem d_PatternBook_Wide_timesPlus_23 : decode b_PatternBook_Wide_timesPlus 23 = .ok (.i2l, 1) := by decide +kernel
theorem d_PatternBook_Wide_timesPlus_24 : decode b_PatternBook_Wide_timesPlus 24 = .ok (.lmul, 1) := by decide +kernel
theorem d_PatternBook_Wide_timesPlus_25 : decode b_PatternBook_Wide_timesPlus 25 = .ok (.lload_n 3, 1) := by decide +kernel
theorem d_PatternBook_Wide_timesPlus_26 : decode b_PatternBook_Wide_timesPlus 26 = .ok (.bipush 32, 2) := by decide +kernel
theorem d_PatternBook_Wide_timesPlus_28 : decode b_PatternBook_Wide_timesPlus 28 = .ok (.lushr, 1) := by decide +kernel
theorem d_PatternBook_Wide_timesPlus_29 : decode b_PatternBook_Wide_timesPlus 29 = .ok (.ladd, 1) := by decide +kernel
theorem d_PatternBook_Wide_timesPlus_30 : decode b_PatternBook_Wide_timesPlus 30 = .ok (.lstore 5, 2) := by decide +kernel
theorem d_PatternBook_Wide_timesPlus_32 : decode b_PatternBook_Wide_timesPlus 32 = .ok (.aload_n 0, 1) := by decide +kernel
theorem d_PatternBook_Wide_timesPlus_33 : decode b_PatternBook_Wide_timesPlus 33 = .ok (.getfield 7, 3) := by decide +kernel
theorem d_PatternBook_Wide_timesPlus_36 : decode b_PatternBook_Wide_timesPlus 36 = .ok (.ldc2_w 30, 3) := by decide +kernel
theorem d_PatternBook_Wide_timesPlus_39 : decode b_PatternBook_Wide_timesPlus 39 = .ok (.land, 1) := by decide +kernel
theorem d_PatternBook_Wide_timesPlus_40 : decode b_PatternBook_Wide_timesPlus 40 = .ok (.iload_n 1, 1) := by decide +kernel
theorem d_PatternBook_Wide_timesPlus_41 : decode b_PatternBook_Wide_timesPlus 41 = .ok (.i2l, 1) := by decide +kernel
theorem d_PatternBook_Wide_timesPlus_42 : decode b_PatternBook_Wide_timesPlus 42 = .ok (.lmul, 1) := by decide +kernel
theorem d_PatternBook_Wide_timesPlus_43 : decode b_PatternBook_Wide_timesPlus 43 = .ok (.lload 5, 2) := by decide +kernel
theorem d_PatternBook_Wide_timesPlus_45 : decode b_PatternBook_Wide_timesPlus 45 = .ok (.bipush 32, 2) := by decide +kernel
theorem d_PatternBook_Wide_timesPlus_47 : decode b_PatternBook_Wide_timesPlus 47 = .ok (.lushr, 1) := by decide +kernel
theorem d_PatternBook_Wide_timesPlus_48 : decode b_PatternBook_Wide_timesPlus 48 = .ok (.ladd, 1) := by decide +kernel
theorem d_PatternBook_Wide_timesPlus_49 : decode b_PatternBook_Wide_timesPlus 49 = .ok (.lstore 7, 2) := by decide +kernel
theorem d_PatternBook_Wide_timesPlus_51 : decode b_PatternBook_Wide_timesPlus 51 = .ok (.aload_n 0, 1) := by decide +kernel
theorem d_PatternBook_Wide_timesPlus_52 : decode b_PatternBook_Wide_timesPlus 52 = .ok (.getfield 7, 3) := by decide +kernel
theorem d_PatternBook_Wide_timesPlus_55 : decode b_PatternBook_Wide_timesPlus 55 = .ok (.bipush 32, 2) := by decide +kernel
theorem d_PatternBook_Wide_timesPlus_57 : decode b_PatternBook_Wide_timesPlus 57 = .ok (.lushr, 1) := by decide +kernel
theorem d_PatternBook_Wide_timesPlus_58 : decode b_PatternBook_Wide_timesPlus 58 = .ok (.iload_n 1, 1) := by decide +kernel
theorem d_PatternBook_Wide_timesPlus_59 : decode b_PatternBook_Wide_timesPlus 59 = .ok (.i2l, 1) := by decide +kernel
theorem d_PatternBook_Wide_timesPlus_60 : decode b_PatternBook_Wide_timesPlus 60 = .ok (.lmul, 1) := by decide +kernel
theorem d_PatternBook_Wide_timesPlus_61 : decode b_PatternBook_Wide_timesPlus 61 = .ok (.lload 7, 2) := by decide +kernel
theorem d_PatternBook_Wide_timesPlus_63 : decode b_PatternBook_Wide_timesPlus 63 = .ok (.bipush 32, 2) := by decide +kernel
theorem d_PatternBook_Wide_timesPlus_65 : decode b_PatternBook_Wide_timesPlus 65 = .ok (.lushr, 1) := by decide +kernel
theorem d_PatternBook_Wide_timesPlus_66 : decode b_PatternBook_Wide_timesPlus 66 = .ok (.ladd, 1) := by decide +kernel
theorem d_PatternBook_Wide_timesPlus_67 : decode b_PatternBook_Wide_timesPlus 67 = .ok (.lstore 9, 2) := by decide +kernel
theorem d_PatternBook_Wide_timesPlus_69 : decode b_PatternBook_Wide_timesPlus 69 = .ok (.aload_n 0, 1) := by decide +kernel
theorem d_PatternBook_Wide_timesPlus_70 : decode b_PatternBook_Wide_timesPlus 70 = .ok (.lload 5, 2) := by decide +kernel
theorem d_PatternBook_Wide_timesPlus_72 : decode b_PatternBook_Wide_timesPlus 72 = .ok (.bipush 32, 2) := by decide +kernel
theorem d_PatternBook_Wide_timesPlus_74 : decode b_PatternBook_Wide_timesPlus 74 = .ok (.lshl, 1) := by decide +kernel
theorem d_PatternBook_Wide_timesPlus_75 : decode b_PatternBook_Wide_timesPlus 75 = .ok (.lload_n 3, 1) := by decide +kernel
theorem d_PatternBook_Wide_timesPlus_76 : decode b_PatternBook_Wide_timesPlus 76 = .ok (.ldc2_w 30, 3) := by decide +kernel
theorem d_PatternBook_Wide_timesPlus_79 : decode b_PatternBook_Wide_timesPlus 79 = .ok (.land, 1) := by decide +kernel
theorem d_PatternBook_Wide_timesPlus_80 : decode b_PatternBook_Wide_timesPlus 80 = .ok (.lor, 1) := by decide +kernel
theorem d_PatternBook_Wide_timesPlus_81 : decode b_PatternBook_Wide_timesPlus 81 = .ok (.putfield 13, 3) := by decide +kernel
theorem d_PatternBook_Wide_timesPlus_84 : decode b_PatternBook_Wide_timesPlus 84 = .ok (.aload_n 0, 1) := by decide +kernel
theorem d_PatternBook_Wide_timesPlus_85 : decode b_PatternBook_Wide_timesPlus 85 = .ok (.lload 9, 2) := by decide +kernel
theorem d_PatternBook_Wide_timesPlus_87 : decode b_PatternBook_Wide_timesPlus 87 = .ok (.bipush 32, 2) := by decide +kernel
theorem d_PatternBook_Wide_timesPlus_89 : decode b_PatternBook_Wide_timesPlus 89 = .ok (.lshl, 1) := by decide +kernel
theorem d_PatternBook_Wide_timesPlus_90 : decode b_PatternBook_Wide_timesPlus 90 = .ok (.lload 7, 2) := by decide +kernel
theorem d_PatternBook_Wide_timesPlus_92 : decode b_PatternBook_Wide_timesPlus 92 = .ok (.ldc2_w 30, 3) := by decide +kernel
theorem d_PatternBook_Wide_timesPlus_95 : decode b_PatternBook_Wide_timesPlus 95 = .ok (.land, 1) := by decide +kernel
theorem d_PatternBook_Wide_timesPlus_96 : decode b_PatternBook_Wide_timesPlus 96 = .ok (.lor, 1) := by decide +kernel
theorem d_PatternBook_Wide_timesPlus_97 : decode b_PatternBook_Wide_timesPlus 97 = .ok (.putfield 7, 3) := by decide +kernel
theorem d_PatternBook_Wide_timesPlus_100 : decode b_PatternBook_Wide_timesPlus 100 = .ok (.return_, 1) := by decide +kernel
theorem d_PatternBook_Wide_takeThreeDigits_0 : decode b_PatternBook_Wide_takeThreeDigits 0 = .ok (.aload_n 0, 1) := by decide +kernel
theorem d_PatternBook_Wide_takeThreeDigits_1 : decode b_PatternBook_Wide_takeThreeDigits 1 = .ok (.getfield 7, 3) := by decide +kernel
theorem d_PatternBook_Wide_takeThreeDigits_4 : decode b_PatternBook_Wide_takeThreeDigits 4 = .ok (.bipush 32, 2) := by decide +kernel
theorem d_PatternBook_Wide_takeThreeDigits_6 : decode b_PatternBook_Wide_takeThreeDigits 6 = .ok (.lushr, 1) := by decide +kernel
theorem d_PatternBook_Wide_takeThreeDigits_7 : decode b_PatternBook_Wide_takeThreeDigits 7 = .ok (.lstore_n 1, 1) := by decide +kernel
theorem d_PatternBook_Wide_takeThreeDigits_8 : decode b_PatternBook_Wide_takeThreeDigits 8 = .ok (.lload_n 1, 1) := by decide +kernel
theorem d_PatternBook_Wide_takeThreeDigits_9 : decode b_PatternBook_Wide_takeThreeDigits 9 = .ok (.ldc2_w 32, 3) := by decide +kernel
theorem d_PatternBook_Wide_takeThreeDigits_12 : decode b_PatternBook_Wide_takeThreeDigits 12 = .ok (.lrem, 1) := by decide +kernel
theorem d_PatternBook_Wide_takeThreeDigits_13 : decode b_PatternBook_Wide_takeThreeDigits 13 = .ok (.bipush 32, 2) := by decide +kernel
theorem d_PatternBook_Wide_takeThreeDigits_15 : decode b_PatternBook_Wide_takeThreeDigits 15 = .ok (.lshl, 1) := by decide +kernel
theorem d_PatternBook_Wide_takeThreeDigits_16 : decode b_PatternBook_Wide_takeThreeDigits 16 = .ok (.aload_n 0, 1) := by decide +kernel
theorem d_PatternBook_Wide_takeThreeDigits_17 : decode b_PatternBook_Wide_takeThreeDigits 17 = .ok (.getfield 7, 3) := by decide +kernel
theorem d_PatternBook_Wide_takeThreeDigits_20 : decode b_PatternBook_Wide_takeThreeDigits 20 = .ok (.ldc2_w 30, 3) := by decide +kernel
theorem d_PatternBook_Wide_takeThreeDigits_23 : decode b_PatternBook_Wide_takeThreeDigits 23 = .ok (.land, 1) := by decide +kernel
theorem d_PatternBook_Wide_takeThreeDigits_24 : decode b_PatternBook_Wide_takeThreeDigits 24 = .ok (.lor, 1) := by decide +kernel
theorem d_PatternBook_Wide_takeThreeDigits_25 : decode b_PatternBook_Wide_takeThreeDigits 25 = .ok (.lstore_n 3, 1) := by decide +kernel
theorem d_PatternBook_Wide_takeThreeDigits_26 : decode b_PatternBook_Wide_takeThreeDigits 26 = .ok (.lload_n 3, 1) := by decide +kernel
theorem d_PatternBook_Wide_takeThreeDigits_27 : decode b_PatternBook_Wide_takeThreeDigits 27 = .ok (.ldc2_w 32, 3) := by decide +kernel
theorem d_PatternBook_Wide_takeThreeDigits_30 : decode b_PatternBook_Wide_takeThreeDigits 30 = .ok (.lrem, 1) := by decide +kernel
theorem d_PatternBook_Wide_takeThreeDigits_31 : decode b_PatternBook_Wide_takeThreeDigits 31 = .ok (.bipush 32, 2) := by decide +kernel
theorem d_PatternBook_Wide_takeThreeDigits_33 : decode b_PatternBook_Wide_takeThreeDigits 33 = .ok (.lshl, 1) := by decide +kernel
theorem d_PatternBook_Wide_takeThreeDigits_34 : decode b_PatternBook_Wide_takeThreeDigits 34 = .ok (.aload_n 0, 1) := by decide +kernel
theorem d_PatternBook_Wide_takeThreeDigits_35 : decode b_PatternBook_Wide_takeThreeDigits 35 = .ok (.getfield 13, 3) := by decide +kernel
theorem d_PatternBook_Wide_takeThreeDigits_38 : decode b_PatternBook_Wide_takeThreeDigits 38 = .ok (.bipush 32, 2) := by decide +kernel
theorem d_PatternBook_Wide_takeThreeDigits_40 : decode b_PatternBook_Wide_takeThreeDigits 40 = .ok (.lushr, 1) := by decide +kernel
theorem d_PatternBook_Wide_takeThreeDigits_41 : decode b_PatternBook_Wide_takeThreeDigits 41 = .ok (.lor, 1) := by decide +kernel
theorem d_PatternBook_Wide_takeThreeDigits_42 : decode b_PatternBook_Wide_takeThreeDigits 42 = .ok (.lstore 5, 2) := by decide +kernel
theorem d_PatternBook_Wide_takeThreeDigits_44 : decode b_PatternBook_Wide_takeThreeDigits 44 = .ok (.lload 5, 2) := by decide +kernel
theorem d_PatternBook_Wide_takeThreeDigits_46 : decode b_PatternBook_Wide_takeThreeDigits 46 = .ok (.ldc2_w 32, 3) := by decide +kernel
theorem d_PatternBook_Wide_takeThreeDigits_49 : decode b_PatternBook_Wide_takeThreeDigits 49 = .ok (.lrem, 1) := by decide +kernel
theorem d_PatternBook_Wide_takeThreeDigits_50 : decode b_PatternBook_Wide_takeThreeDigits 50 = .ok (.bipush 32, 2) := by decide +kernel
theorem d_PatternBook_Wide_takeThreeDigits_52 : decode b_PatternBook_Wide_takeThreeDigits 52 = .ok (.lshl, 1) := by decide +kernel
theorem d_PatternBook_Wide_takeThreeDigits_53 : decode b_PatternBook_Wide_takeThreeDigits 53 = .ok (.aload_n 0, 1) := by decide +kernel
theorem d_PatternBook_Wide_takeThreeDigits_54 : decode b_PatternBook_Wide_takeThreeDigits 54 = .ok (.getfield 13, 3) := by decide +kernel
theorem d_PatternBook_Wide_takeThreeDigits_57 : decode b_PatternBook_Wide_takeThreeDigits 57 = .ok (.ldc2_w 30, 3) := by decide +kernel
theorem d_PatternBook_Wide_takeThreeDigits_60 : decode b_PatternBook_Wide_takeThreeDigits 60 = .ok (.land, 1) := by decide +kernel
theorem d_PatternBook_Wide_takeThreeDigits_61 : decode b_PatternBook_Wide_takeThreeDigits 61 = .ok (.lor, 1) := by decide +kernel
theorem d_PatternBook_Wide_takeThreeDigits_62 : decode b_PatternBook_Wide_takeThreeDigits 62 = .ok (.lstore 7, 2) := by decide +kernel
theorem d_PatternBook_Wide_takeThreeDigits_64 : decode b_PatternBook_Wide_takeThreeDigits 64 = .ok (.aload_n 0, 1) := by decide +kernel
theorem d_PatternBook_Wide_takeThreeDigits_65 : decode b_PatternBook_Wide_takeThreeDigits 65 = .ok (.lload_n 1, 1) := by decide +kernel
theorem d_PatternBook_Wide_takeThreeDigits_66 : decode b_PatternBook_Wide_takeThreeDigits 66 = .ok (.ldc2_w 32, 3) := by decide +kernel
theorem d_PatternBook_Wide_takeThreeDigits_69 : decode b_PatternBook_Wide_takeThreeDigits 69 = .ok (.ldiv, 1) := by decide +kernel
theorem d_PatternBook_Wide_takeThreeDigits_70 : decode b_PatternBook_Wide_takeThreeDigits 70 = .ok (.bipush 32, 2) := by decide +kernel
theorem d_PatternBook_Wide_takeThreeDigits_72 : decode b_PatternBook_Wide_takeThreeDigits 72 = .ok (.lshl, 1) := by decide +kernel
theorem d_PatternBook_Wide_takeThreeDigits_73 : decode b_PatternBook_Wide_takeThreeDigits 73 = .ok (.lload_n 3, 1) := by decide +kernel
theorem d_PatternBook_Wide_takeThreeDigits_74 : decode b_PatternBook_Wide_takeThreeDigits 74 = .ok (.ldc2_w 32, 3) := by decide +kernel
theorem d_PatternBook_Wide_takeThreeDigits_77 : decode b_PatternBook_Wide_takeThreeDigits 77 = .ok (.ldiv, 1) := by decide +kernel
theorem d_PatternBook_Wide_takeThreeDigits_78 : decode b_PatternBook_Wide_takeThreeDigits 78 = .ok (.lor, 1) := by decide +kernel
theorem d_PatternBook_Wide_takeThreeDigits_79 : decode b_PatternBook_Wide_takeThreeDigits 79 = .ok (.putfield 7, 3) := by decide +kernel
theorem d_PatternBook_Wide_takeThreeDigits_82 : decode b_PatternBook_Wide_takeThreeDigits 82 = .ok (.aload_n 0, 1) := by decide +kernel
theorem d_PatternBook_Wide_takeThreeDigits_83 : decode b_PatternBook_Wide_takeThreeDigits 83 = .ok (.lload 5, 2) := by decide +kernel
theorem d_PatternBook_Wide_takeThreeDigits_85 : decode b_PatternBook_Wide_takeThreeDigits 85 = .ok (.ldc2_w 32, 3) := by decide +kernel
theorem d_PatternBook_Wide_takeThreeDigits_88 : decode b_PatternBook_Wide_takeThreeDigits 88 = .ok (.ldiv, 1) := by decide +kernel
theorem d_PatternBook_Wide_takeThreeDigits_89 : decode b_PatternBook_Wide_takeThreeDigits 89 = .ok (.bipush 32, 2) := by decide +kernel
theorem d_PatternBook_Wide_takeThreeDigits_91 : decode b_PatternBook_Wide_takeThreeDigits 91 = .ok (.lshl, 1) := by decide +kernel
theorem d_PatternBook_Wide_takeThreeDigits_92 : decode b_PatternBook_Wide_takeThreeDigits 92 = .ok (.lload 7, 2) := by decide +kernel
theorem d_PatternBook_Wide_takeThreeDigits_94 : decode b_PatternBook_Wide_takeThreeDigits 94 = .ok (.ldc2_w 32, 3) := by decide +kernel
theorem d_PatternBook_Wide_takeThreeDigits_97 : decode b_PatternBook_Wide_takeThreeDigits 97 = .ok (.ldiv, 1) := by decide +kernel
theorem d_PatternBook_Wide_takeThreeDigits_98 : decode b_PatternBook_Wide_takeThreeDigits 98 = .ok (.lor, 1) := by decide +kernel
theorem d_PatternBook_Wide_takeThreeDigits_99 : decode b_PatternBook_Wide_takeThreeDigits 99 = .ok (.putfield 13, 3) := by decide +kernel
theorem d_PatternBook_Wide_takeThreeDigits_102 : decode b_PatternBook_Wide_takeThreeDigits 102 = .ok (.lload 7, 2) := by decide +kernel
theorem d_PatternBook_Wide_takeThreeDigits_104 : decode b_PatternBook_Wide_takeThreeDigits 104 = .ok (.ldc2_w 32, 3) := by decide +kernel
theorem d_PatternBook_Wide_takeThreeDigits_107 : decode b_PatternBook_Wide_takeThreeDigits 107 = .ok (.lrem, 1) := by decide +kernel
theorem d_PatternBook_Wide_takeThreeDigits_108 : decode b_PatternBook_Wide_takeThreeDigits 108 = .ok (.l2i, 1) := by decide +kernel
theorem d_PatternBook_Wide_takeThreeDigits_109 : decode b_PatternBook_Wide_takeThreeDigits 109 = .ok (.ireturn, 1) := by decide +kernel
theorem d_PatternBook_Datum_init_0 : decode b_PatternBook_Datum_init 0 = .ok (.aload_n 0, 1) := by decide +kernel
theorem d_PatternBook_Datum_init_1 : decode b_PatternBook_Datum_init 1 = .ok (.invokespecial 3, 3) := by decide +kernel
theorem d_PatternBook_Datum_init_4 : decode b_PatternBook_Datum_init 4 = .ok (.aload_n 0, 1) := by decide +kernel
theorem d_PatternBook_Datum_init_5 : decode b_PatternBook_Datum_init 5 = .ok (.iconst 0, 1) := by decide +kernel
theorem d_PatternBook_Datum_init_6 : decode b_PatternBook_Datum_init 6 = .ok (.putfield 9, 3) := by decide +kernel
theorem d_PatternBook_Datum_init_9 : decode b_PatternBook_Datum_init 9 = .ok (.aload_n 0, 1) := by decide +kernel
theorem d_PatternBook_Datum_init_10 : decode b_PatternBook_Datum_init 10 = .ok (.iconst 0, 1) := by decide +kernel
theorem d_PatternBook_Datum_init_11 : decode b_PatternBook_Datum_init 11 = .ok (.putfield 15, 3) := by decide +kernel
theorem d_PatternBook_Datum_init_14 : decode b_PatternBook_Datum_init 14 = .ok (.aload_n 0, 1) := by decide +kernel
theorem d_PatternBook_Datum_init_15 : decode b_PatternBook_Datum_init 15 = .ok (.iconst 0, 1) := by decide +kernel
theorem d_PatternBook_Datum_init_16 : decode b_PatternBook_Datum_init 16 = .ok (.putfield 19, 3) := by decide +kernel
theorem d_PatternBook_Datum_init_19 : decode b_PatternBook_Datum_init 19 = .ok (.aload_n 0, 1) := by decide +kernel
theorem d_PatternBook_Datum_init_20 : decode b_PatternBook_Datum_init 20 = .ok (.new 22, 3) := by decide +kernel
theorem d_PatternBook_Datum_init_23 : decode b_PatternBook_Datum_init 23 = .ok (.dup, 1) := by decide +kernel
theorem d_PatternBook_Datum_init_24 : decode b_PatternBook_Datum_init 24 = .ok (.invokespecial 24, 3) := by decide +kernel
theorem d_PatternBook_Datum_init_27 : decode b_PatternBook_Datum_init 27 = .ok (.putfield 25, 3) := by decide +kernel
theorem d_PatternBook_Datum_init_30 : decode b_PatternBook_Datum_init 30 = .ok (.return_, 1) := by decide +kernel
theorem d_PatternBook_Datum_become_0 : decode b_PatternBook_Datum_become 0 = .ok (.aload_n 0, 1) := by decide +kernel
theorem d_PatternBook_Datum_become_1 : decode b_PatternBook_Datum_become 1 = .ok (.iload_n 1, 1) := by decide +kernel
theorem d_PatternBook_Datum_become_2 : decode b_PatternBook_Datum_become 2 = .ok (.putfield 9, 3) := by decide +kernel
theorem d_PatternBook_Datum_become_5 : decode b_PatternBook_Datum_become 5 = .ok (.aload_n 0, 1) := by decide +kernel
theorem d_PatternBook_Datum_become_6 : decode b_PatternBook_Datum_become 6 = .ok (.iload_n 1, 1) := by decide +kernel
theorem d_PatternBook_Datum_become_7 : decode b_PatternBook_Datum_become 7 = .ok (.ifCond .ne 7, 3) := by decide +kernel
theorem d_PatternBook_Datum_become_10 : decode b_PatternBook_Datum_become 10 = .ok (.iload_n 2, 1) := by decide +kernel
theorem d_PatternBook_Datum_become_11 : decode b_PatternBook_Datum_become 11 = .ok (.goto 4, 3) := by decide +kernel
theorem d_PatternBook_Datum_become_14 : decode b_PatternBook_Datum_become 14 = .ok (.iconst 0, 1) := by decide +kernel
theorem d_PatternBook_Datum_become_15 : decode b_PatternBook_Datum_become 15 = .ok (.putfield 19, 3) := by decide +kernel
theorem d_PatternBook_Datum_become_18 : decode b_PatternBook_Datum_become 18 = .ok (.iload_n 1, 1) := by decide +kernel
theorem d_PatternBook_Datum_become_19 : decode b_PatternBook_Datum_become 19 = .ok (.iconst 1, 1) := by decide +kernel
theorem d_PatternBook_Datum_become_20 : decode b_PatternBook_Datum_become 20 = .ok (.if_icmp .ne 12, 3) := by decide +kernel
theorem d_PatternBook_Datum_become_23 : decode b_PatternBook_Datum_become 23 = .ok (.aload_n 0, 1) := by decide +kernel
theorem d_PatternBook_Datum_become_24 : decode b_PatternBook_Datum_become 24 = .ok (.getfield 25, 3) := by decide +kernel
theorem d_PatternBook_Datum_become_27 : decode b_PatternBook_Datum_become 27 = .ok (.lconst 0, 1) := by decide +kernel
theorem d_PatternBook_Datum_become_28 : decode b_PatternBook_Datum_become 28 = .ok (.lconst 0, 1) := by decide +kernel
theorem d_PatternBook_Datum_become_29 : decode b_PatternBook_Datum_become 29 = .ok (.invokevirtual 29, 3) := by decide +kernel
theorem d_PatternBook_Datum_become_32 : decode b_PatternBook_Datum_become 32 = .ok (.return_, 1) := by decide +kernel
theorem d_PatternBook_Declet_join_0 : decode b_PatternBook_Declet_join 0 = .ok (.bipush 100, 2) := by decide +kernel
theorem d_PatternBook_Declet_join_2 : decode b_PatternBook_Declet_join 2 = .ok (.iload_n 0, 1) := by decide +kernel
theorem d_PatternBook_Declet_join_3 : decode b_PatternBook_Declet_join 3 = .ok (.imul, 1) := by decide +kernel
theorem d_PatternBook_Declet_join_4 : decode b_PatternBook_Declet_join 4 = .ok (.bipush 10, 2) := by decide +kernel
theorem d_PatternBook_Declet_join_6 : decode b_PatternBook_Declet_join 6 = .ok (.iload_n 1, 1) := by decide +kernel
theorem d_PatternBook_Declet_join_7 : decode b_PatternBook_Declet_join 7 = .ok (.imul, 1) := by decide +kernel
theorem d_PatternBook_Declet_join_8 : decode b_PatternBook_Declet_join 8 = .ok (.iadd, 1) := by decide +kernel
theorem d_PatternBook_Declet_join_9 : decode b_PatternBook_Declet_join 9 = .ok (.iload_n 2, 1) := by decide +kernel
theorem d_PatternBook_Declet_join_10 : decode b_PatternBook_Declet_join 10 = .ok (.iadd, 1) := by decide +kernel
theorem d_PatternBook_Declet_join_11 : decode b_PatternBook_Declet_join 11 = .ok (.ireturn, 1) := by decide +kernel
theorem d_PatternBook_Declet_bits_0 : decode b_PatternBook_Declet_bits 0 = .ok (.iload_n 0, 1) := by decide +kernel
theorem d_PatternBook_Declet_bits_1 : decode b_PatternBook_Declet_bits 1 = .ok (.bipush 7, 2) := by decide +kernel
theorem d_PatternBook_Declet_bits_3 : decode b_PatternBook_Declet_bits 3 = .ok (.ishl, 1) := by decide +kernel
theorem d_PatternBook_Declet_bits_4 : decode b_PatternBook_Declet_bits 4 = .ok (.iload_n 1, 1) := by decide +kernel
theorem d_PatternBook_Declet_bits_5 : decode b_PatternBook_Declet_bits 5 = .ok (.iconst 4, 1) := by decide +kernel
theorem d_PatternBook_Declet_bits_6 : decode b_PatternBook_Declet_bits 6 = .ok (.ishl, 1) := by decide +kernel
theorem d_PatternBook_Declet_bits_7 : decode b_PatternBook_Declet_bits 7 = .ok (.ior, 1) := by decide +kernel
theorem d_PatternBook_Declet_bits_8 : decode b_PatternBook_Declet_bits 8 = .ok (.iload_n 2, 1) := by decide +kernel
theorem d_PatternBook_Declet_bits_9 : decode b_PatternBook_Declet_bits 9 = .ok (.ior, 1) := by decide +kernel
theorem d_PatternBook_Declet_bits_10 : decode b_PatternBook_Declet_bits 10 = .ok (.ireturn, 1) := by decide +kernel
theorem d_PatternBook_Declet_readTwoLarge_0 : decode b_PatternBook_Declet_readTwoLarge 0 = .ok (.bipush 8, 2) := by decide +kernel
theorem d_PatternBook_Declet_readTwoLarge_2 : decode b_PatternBook_Declet_readTwoLarge 2 = .ok (.iload_n 0, 1) := by decide +kernel
theorem d_PatternBook_Declet_readTwoLarge_3 : decode b_PatternBook_Declet_readTwoLarge 3 = .ok (.iconst 1, 1) := by decide +kernel
theorem d_PatternBook_Declet_readTwoLarge_4 : decode b_PatternBook_Declet_readTwoLarge 4 = .ok (.iand, 1) := by decide +kernel
theorem d_PatternBook_Declet_readTwoLarge_5 : decode b_PatternBook_Declet_readTwoLarge 5 = .ok (.iadd, 1) := by decide +kernel
theorem d_PatternBook_Declet_readTwoLarge_6 : decode b_PatternBook_Declet_readTwoLarge 6 = .ok (.istore_n 3, 1) := by decide +kernel
theorem d_PatternBook_Declet_readTwoLarge_7 : decode b_PatternBook_Declet_readTwoLarge 7 = .ok (.bipush 8, 2) := by decide +kernel
theorem d_PatternBook_Declet_readTwoLarge_9 : decode b_PatternBook_Declet_readTwoLarge 9 = .ok (.iload_n 1, 1) := by decide +kernel
theorem d_PatternBook_Declet_readTwoLarge_10 : decode b_PatternBook_Declet_readTwoLarge 10 = .ok (.iconst 1, 1) := by decide +kernel
theorem d_PatternBook_Declet_readTwoLarge_11 : decode b_PatternBook_Declet_readTwoLarge 11 = .ok (.iand, 1) := by decide +kernel
theorem d_PatternBook_Declet_readTwoLarge_12 : decode b_PatternBook_Declet_readTwoLarge 12 = .ok (.iadd, 1) := by decide +kernel
theorem d_PatternBook_Declet_readTwoLarge_13 : decode b_PatternBook_Declet_readTwoLarge 13 = .ok (.istore 4, 2) := by decide +kernel
theorem d_PatternBook_Declet_readTwoLarge_15 : decode b_PatternBook_Declet_readTwoLarge 15 = .ok (.iload_n 1, 1) := by decide +kernel
theorem d_PatternBook_Declet_readTwoLarge_16 : decode b_PatternBook_Declet_readTwoLarge 16 = .ok (.iconst 1, 1) := by decide +kernel
theorem d_PatternBook_Declet_readTwoLarge_17 : decode b_PatternBook_Declet_readTwoLarge 17 = .ok (.ishr, 1) := by decide +kernel
theorem d_PatternBook_Declet_readTwoLarge_18 : decode b_PatternBook_Declet_readTwoLarge 18 = .ok (.tableswitch 67 0 2 #[26, 39, 56], 26) := by decide +kernel
theorem d_PatternBook_Declet_readTwoLarge_44 : decode b_PatternBook_Declet_readTwoLarge 44 = .ok (.iload_n 3, 1) := by decide +kernel
theorem d_PatternBook_Declet_readTwoLarge_45 : decode b_PatternBook_Declet_readTwoLarge 45 = .ok (.iload 4, 2) := by decide +kernel
theorem d_PatternBook_Declet_readTwoLarge_47 : decode b_PatternBook_Declet_readTwoLarge 47 = .ok (.iload_n 0, 1) := by decide +kernel
theorem d_PatternBook_Declet_readTwoLarge_48 : decode b_PatternBook_Declet_readTwoLarge 48 = .ok (.bipush 6, 2) := by decide +kernel
theorem d_PatternBook_Declet_readTwoLarge_50 : decode b_PatternBook_Declet_readTwoLarge 50 = .ok (.iand, 1) := by decide +kernel
theorem d_PatternBook_Declet_readTwoLarge_51 : decode b_PatternBook_Declet_readTwoLarge 51 = .ok (.iload_n 2, 1) := by decide +kernel
theorem d_PatternBook_Declet_readTwoLarge_52 : decode b_PatternBook_Declet_readTwoLarge 52 = .ok (.iadd, 1) := by decide +kernel
theorem d_PatternBook_Declet_readTwoLarge_53 : decode b_PatternBook_Declet_readTwoLarge 53 = .ok (.invokestatic 9, 3) := by decide +kernel
theorem d_PatternBook_Declet_readTwoLarge_56 : decode b_PatternBook_Declet_readTwoLarge 56 = .ok (.ireturn, 1) := by decide +kernel
theorem d_PatternBook_Declet_readTwoLarge_57 : decode b_PatternBook_Declet_readTwoLarge 57 = .ok (.iload_n 3, 1) := by decide +kernel
theorem d_PatternBook_Declet_readTwoLarge_58 : decode b_PatternBook_Declet_readTwoLarge 58 = .ok (.iload_n 0, 1) := by decide +kernel
theorem d_PatternBook_Declet_readTwoLarge_59 : decode b_PatternBook_Declet_readTwoLarge 59 = .ok (.bipush 6, 2) := by decide +kernel
theorem d_PatternBook_Declet_readTwoLarge_61 : decode b_PatternBook_Declet_readTwoLarge 61 = .ok (.iand, 1) := by decide +kernel
theorem d_PatternBook_Declet_readTwoLarge_62 : decode b_PatternBook_Declet_readTwoLarge 62 = .ok (.iload_n 1, 1) := by decide +kernel
theorem d_PatternBook_Declet_readTwoLarge_63 : decode b_PatternBook_Declet_readTwoLarge 63 = .ok (.iconst 1, 1) := by decide +kernel
theorem d_PatternBook_Declet_readTwoLarge_64 : decode b_PatternBook_Declet_readTwoLarge 64 = .ok (.iand, 1) := by decide +kernel
theorem d_PatternBook_Declet_readTwoLarge_65 : decode b_PatternBook_Declet_readTwoLarge 65 = .ok (.iadd, 1) := by decide +kernel
theorem d_PatternBook_Declet_readTwoLarge_66 : decode b_PatternBook_Declet_readTwoLarge 66 = .ok (.bipush 8, 2) := by decide +kernel
theorem d_PatternBook_Declet_readTwoLarge_68 : decode b_PatternBook_Declet_readTwoLarge 68 = .ok (.iload_n 2, 1) := by decide +kernel
theorem d_PatternBook_Declet_readTwoLarge_69 : decode b_PatternBook_Declet_readTwoLarge 69 = .ok (.iadd, 1) := by decide +kernel
theorem d_PatternBook_Declet_readTwoLarge_70 : decode b_PatternBook_Declet_readTwoLarge 70 = .ok (.invokestatic 9, 3) := by decide +kernel
theorem d_PatternBook_Declet_readTwoLarge_73 : decode b_PatternBook_Declet_readTwoLarge 73 = .ok (.ireturn, 1) := by decide +kernel
theorem d_PatternBook_Declet_readTwoLarge_74 : decode b_PatternBook_Declet_readTwoLarge 74 = .ok (.iload_n 0, 1) := by decide +kernel
theorem d_PatternBook_Declet_readTwoLarge_75 : decode b_PatternBook_Declet_readTwoLarge 75 = .ok (.iload 4, 2) := by decide +kernel
theorem d_PatternBook_Declet_readTwoLarge_77 : decode b_PatternBook_Declet_readTwoLarge 77 = .ok (.bipush 8, 2) := by decide +kernel
theorem d_PatternBook_Declet_readTwoLarge_79 : decode b_PatternBook_Declet_readTwoLarge 79 = .ok (.iload_n 2, 1) := by decide +kernel
theorem d_PatternBook_Declet_readTwoLarge_80 : decode b_PatternBook_Declet_readTwoLarge 80 = .ok (.iadd, 1) := by decide +kernel
theorem d_PatternBook_Declet_readTwoLarge_81 : decode b_PatternBook_Declet_readTwoLarge 81 = .ok (.invokestatic 9, 3) := by decide +kernel
theorem d_PatternBook_Declet_readTwoLarge_84 : decode b_PatternBook_Declet_readTwoLarge 84 = .ok (.ireturn, 1) := by decide +kernel
theorem d_PatternBook_Declet_readTwoLarge_85 : decode b_PatternBook_Declet_readTwoLarge 85 = .ok (.iload_n 3, 1) := by decide +kernel
theorem d_PatternBook_Declet_readTwoLarge_86 : decode b_PatternBook_Declet_readTwoLarge 86 = .ok (.iload 4, 2) := by decide +kernel
theorem d_PatternBook_Declet_readTwoLarge_88 : decode b_PatternBook_Declet_readTwoLarge 88 = .ok (.bipush 8, 2) := by decide +kernel
theorem d_PatternBook_Declet_readTwoLarge_90 : decode b_PatternBook_Declet_readTwoLarge 90 = .ok (.iload_n 2, 1) := by decide +kernel
theorem d_PatternBook_Declet_readTwoLarge_91 : decode b_PatternBook_Declet_readTwoLarge 91 = .ok (.iadd, 1) := by decide +kernel
theorem d_PatternBook_Declet_readTwoLarge_92 : decode b_PatternBook_Declet_readTwoLarge 92 = .ok (.invokestatic 9, 3) := by decide +kernel
theorem d_PatternBook_Declet_readTwoLarge_95 : decode b_PatternBook_Declet_readTwoLarge 95 = .ok (.ireturn, 1) := by decide +kernel
theorem d_PatternBook_Declet_read_0 : decode b_PatternBook_Declet_read 0 = .ok (.iload_n 0, 1) := by decide +kernel
theorem d_PatternBook_Declet_read_1 : decode b_PatternBook_Declet_read 1 = .ok (.bipush 7, 2) := by decide +kernel
theorem d_PatternBook_Declet_read_3 : decode b_PatternBook_Declet_read 3 = .ok (.ishr, 1) := by decide +kernel
theorem d_PatternBook_Declet_read_4 : decode b_PatternBook_Declet_read 4 = .ok (.bipush 7, 2) := by decide +kernel
theorem d_PatternBook_Declet_read_6 : decode b_PatternBook_Declet_read 6 = .ok (.iand, 1) := by decide +kernel
theorem d_PatternBook_Declet_read_7 : decode b_PatternBook_Declet_read 7 = .ok (.istore_n 1, 1) := by decide +kernel
theorem d_PatternBook_Declet_read_8 : decode b_PatternBook_Declet_read 8 = .ok (.iload_n 0, 1) := by decide +kernel
theorem d_PatternBook_Declet_read_9 : decode b_PatternBook_Declet_read 9 = .ok (.iconst 4, 1) := by decide +kernel
theorem d_PatternBook_Declet_read_10 : decode b_PatternBook_Declet_read 10 = .ok (.ishr, 1) := by decide +kernel
theorem d_PatternBook_Declet_read_11 : decode b_PatternBook_Declet_read 11 = .ok (.bipush 7, 2) := by decide +kernel
theorem d_PatternBook_Declet_read_13 : decode b_PatternBook_Declet_read 13 = .ok (.iand, 1) := by decide +kernel
theorem d_PatternBook_Declet_read_14 : decode b_PatternBook_Declet_read 14 = .ok (.istore_n 2, 1) := by decide +kernel
theorem d_PatternBook_Declet_read_15 : decode b_PatternBook_Declet_read 15 = .ok (.iload_n 0, 1) := by decide +kernel
theorem d_PatternBook_Declet_read_16 : decode b_PatternBook_Declet_read 16 = .ok (.bipush 7, 2) := by decide +kernel
theorem d_PatternBook_Declet_read_18 : decode b_PatternBook_Declet_read 18 = .ok (.iand, 1) := by decide +kernel
theorem d_PatternBook_Declet_read_19 : decode b_PatternBook_Declet_read 19 = .ok (.istore_n 3, 1) := by decide +kernel
theorem d_PatternBook_Declet_read_20 : decode b_PatternBook_Declet_read 20 = .ok (.iload_n 0, 1) := by decide +kernel
theorem d_PatternBook_Declet_read_21 : decode b_PatternBook_Declet_read 21 = .ok (.bipush 8, 2) := by decide +kernel
theorem d_PatternBook_Declet_read_23 : decode b_PatternBook_Declet_read 23 = .ok (.iand, 1) := by decide +kernel
theorem d_PatternBook_Declet_read_24 : decode b_PatternBook_Declet_read 24 = .ok (.ifCond .ne 10, 3) := by decide +kernel
theorem d_PatternBook_Declet_read_27 : decode b_PatternBook_Declet_read 27 = .ok (.iload_n 1, 1) := by decide +kernel
theorem d_PatternBook_Declet_read_28 : decode b_PatternBook_Declet_read 28 = .ok (.iload_n 2, 1) := by decide +kernel
theorem d_PatternBook_Declet_read_29 : decode b_PatternBook_Declet_read 29 = .ok (.iload_n 3, 1) := by decide +kernel
