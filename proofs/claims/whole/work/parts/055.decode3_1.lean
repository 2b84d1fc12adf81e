theorem d_PatternBook_put_0 : decode b_PatternBook_put 0 = .ok (.iload_n 1, 1) := by decide +kernel
theorem d_PatternBook_put_1 : decode b_PatternBook_put 1 = .ok (.ifCond .lt 8, 3) := by decide +kernel
theorem d_PatternBook_put_4 : decode b_PatternBook_put 4 = .ok (.iload_n 1, 1) := by decide +kernel
theorem d_PatternBook_put_5 : decode b_PatternBook_put 5 = .ok (.iconst 3, 1) := by decide +kernel
theorem d_PatternBook_put_6 : decode b_PatternBook_put 6 = .ok (.if_icmp .le 5, 3) := by decide +kernel
theorem d_PatternBook_put_9 : decode b_PatternBook_put 9 = .ok (.iconst 0, 1) := by decide +kernel
theorem d_PatternBook_put_10 : decode b_PatternBook_put 10 = .ok (.ireturn, 1) := by decide +kernel
theorem d_PatternBook_put_11 : decode b_PatternBook_put 11 = .ok (.aload_n 0, 1) := by decide +kernel
theorem d_PatternBook_put_12 : decode b_PatternBook_put 12 = .ok (.getfield 29, 3) := by decide +kernel
theorem d_PatternBook_put_15 : decode b_PatternBook_put 15 = .ok (.iload_n 2, 1) := by decide +kernel
theorem d_PatternBook_put_16 : decode b_PatternBook_put 16 = .ok (.putfield 73, 3) := by decide +kernel
theorem d_PatternBook_put_19 : decode b_PatternBook_put 19 = .ok (.aload_n 0, 1) := by decide +kernel
theorem d_PatternBook_put_20 : decode b_PatternBook_put 20 = .ok (.getfield 29, 3) := by decide +kernel
theorem d_PatternBook_put_23 : decode b_PatternBook_put 23 = .ok (.getfield 77, 3) := by decide +kernel
theorem d_PatternBook_put_26 : decode b_PatternBook_put 26 = .ok (.lload 4, 2) := by decide +kernel
theorem d_PatternBook_put_28 : decode b_PatternBook_put 28 = .ok (.lload 6, 2) := by decide +kernel
theorem d_PatternBook_put_30 : decode b_PatternBook_put 30 = .ok (.invokevirtual 80, 3) := by decide +kernel
theorem d_PatternBook_put_33 : decode b_PatternBook_put 33 = .ok (.aload_n 0, 1) := by decide +kernel
theorem d_PatternBook_put_34 : decode b_PatternBook_put 34 = .ok (.getfield 29, 3) := by decide +kernel
theorem d_PatternBook_put_37 : decode b_PatternBook_put 37 = .ok (.iload_n 1, 1) := by decide +kernel
theorem d_PatternBook_put_38 : decode b_PatternBook_put 38 = .ok (.iload_n 3, 1) := by decide +kernel
theorem d_PatternBook_put_39 : decode b_PatternBook_put 39 = .ok (.invokevirtual 84, 3) := by decide +kernel
theorem d_PatternBook_put_42 : decode b_PatternBook_put 42 = .ok (.iconst 1, 1) := by decide +kernel
theorem d_PatternBook_put_43 : decode b_PatternBook_put 43 = .ok (.ireturn, 1) := by decide +kernel
theorem d_PatternBook_pattern_0 : decode b_PatternBook_pattern 0 = .ok (.aload_n 0, 1) := by decide +kernel
theorem d_PatternBook_pattern_1 : decode b_PatternBook_pattern 1 = .ok (.getfield 36, 3) := by decide +kernel
theorem d_PatternBook_pattern_4 : decode b_PatternBook_pattern 4 = .ok (.iload_n 1, 1) := by decide +kernel
theorem d_PatternBook_pattern_5 : decode b_PatternBook_pattern 5 = .ok (.invokevirtual 88, 3) := by decide +kernel
theorem d_PatternBook_pattern_8 : decode b_PatternBook_pattern 8 = .ok (.lreturn, 1) := by decide +kernel
theorem d_PatternBook_look_0 : decode b_PatternBook_look 0 = .ok (.iload_n 1, 1) := by decide +kernel
theorem d_PatternBook_look_1 : decode b_PatternBook_look 1 = .ok (.tableswitch 59 0 2 #[27, 35, 51], 27) := by decide +kernel
theorem d_PatternBook_look_28 : decode b_PatternBook_look 28 = .ok (.aload_n 0, 1) := by decide +kernel
theorem d_PatternBook_look_29 : decode b_PatternBook_look 29 = .ok (.getfield 29, 3) := by decide +kernel
theorem d_PatternBook_look_32 : decode b_PatternBook_look 32 = .ok (.getfield 61, 3) := by decide +kernel
theorem d_PatternBook_look_35 : decode b_PatternBook_look 35 = .ok (.ireturn, 1) := by decide +kernel
theorem d_PatternBook_look_36 : decode b_PatternBook_look 36 = .ok (.aload_n 0, 1) := by decide +kernel
theorem d_PatternBook_look_37 : decode b_PatternBook_look 37 = .ok (.getfield 29, 3) := by decide +kernel
theorem d_PatternBook_look_40 : decode b_PatternBook_look 40 = .ok (.getfield 73, 3) := by decide +kernel
theorem d_PatternBook_look_43 : decode b_PatternBook_look 43 = .ok (.ifCond .eq 7, 3) := by decide +kernel
theorem d_PatternBook_look_46 : decode b_PatternBook_look 46 = .ok (.iconst 1, 1) := by decide +kernel
theorem d_PatternBook_look_47 : decode b_PatternBook_look 47 = .ok (.goto 4, 3) := by decide +kernel
theorem d_PatternBook_look_50 : decode b_PatternBook_look 50 = .ok (.iconst 0, 1) := by decide +kernel
theorem d_PatternBook_look_51 : decode b_PatternBook_look 51 = .ok (.ireturn, 1) := by decide +kernel
theorem d_PatternBook_look_52 : decode b_PatternBook_look 52 = .ok (.aload_n 0, 1) := by decide +kernel
theorem d_PatternBook_look_53 : decode b_PatternBook_look 53 = .ok (.getfield 29, 3) := by decide +kernel
theorem d_PatternBook_look_56 : decode b_PatternBook_look 56 = .ok (.getfield 92, 3) := by decide +kernel
theorem d_PatternBook_look_59 : decode b_PatternBook_look 59 = .ok (.ireturn, 1) := by decide +kernel
theorem d_PatternBook_look_60 : decode b_PatternBook_look 60 = .ok (.iconst (-1), 1) := by decide +kernel
theorem d_PatternBook_look_61 : decode b_PatternBook_look 61 = .ok (.ireturn, 1) := by decide +kernel
theorem d_PatternBook_part_0 : decode b_PatternBook_part 0 = .ok (.aload_n 0, 1) := by decide +kernel
theorem d_PatternBook_part_1 : decode b_PatternBook_part 1 = .ok (.getfield 29, 3) := by decide +kernel
theorem d_PatternBook_part_4 : decode b_PatternBook_part 4 = .ok (.getfield 77, 3) := by decide +kernel
theorem d_PatternBook_part_7 : decode b_PatternBook_part 7 = .ok (.iload_n 1, 1) := by decide +kernel
theorem d_PatternBook_part_8 : decode b_PatternBook_part 8 = .ok (.invokevirtual 88, 3) := by decide +kernel
theorem d_PatternBook_part_11 : decode b_PatternBook_part 11 = .ok (.lreturn, 1) := by decide +kernel
theorem d_PatternBook_digits_0 : decode b_PatternBook_digits 0 = .ok (.iload_n 1, 1) := by decide +kernel
theorem d_PatternBook_digits_1 : decode b_PatternBook_digits 1 = .ok (.ifCond .lt 10, 3) := by decide +kernel
theorem d_PatternBook_digits_4 : decode b_PatternBook_digits 4 = .ok (.iload_n 1, 1) := by decide +kernel
theorem d_PatternBook_digits_5 : decode b_PatternBook_digits 5 = .ok (.sipush 1023, 3) := by decide +kernel
theorem d_PatternBook_digits_8 : decode b_PatternBook_digits 8 = .ok (.if_icmp .le 5, 3) := by decide +kernel
theorem d_PatternBook_digits_11 : decode b_PatternBook_digits 11 = .ok (.iconst (-1), 1) := by decide +kernel
theorem d_PatternBook_digits_12 : decode b_PatternBook_digits 12 = .ok (.ireturn, 1) := by decide +kernel
theorem d_PatternBook_digits_13 : decode b_PatternBook_digits 13 = .ok (.iload_n 1, 1) := by decide +kernel
theorem d_PatternBook_digits_14 : decode b_PatternBook_digits 14 = .ok (.invokestatic 95, 3) := by decide +kernel
theorem d_PatternBook_digits_17 : decode b_PatternBook_digits 17 = .ok (.ireturn, 1) := by decide +kernel
theorem d_PatternBook_declet_0 : decode b_PatternBook_declet 0 = .ok (.iload_n 1, 1) := by decide +kernel
theorem d_PatternBook_declet_1 : decode b_PatternBook_declet 1 = .ok (.ifCond .lt 10, 3) := by decide +kernel
theorem d_PatternBook_declet_4 : decode b_PatternBook_declet 4 = .ok (.iload_n 1, 1) := by decide +kernel
theorem d_PatternBook_declet_5 : decode b_PatternBook_declet 5 = .ok (.sipush 999, 3) := by decide +kernel
theorem d_PatternBook_declet_8 : decode b_PatternBook_declet 8 = .ok (.if_icmp .le 5, 3) := by decide +kernel
theorem d_PatternBook_declet_11 : decode b_PatternBook_declet 11 = .ok (.iconst (-1), 1) := by decide +kernel
theorem d_PatternBook_declet_12 : decode b_PatternBook_declet 12 = .ok (.ireturn, 1) := by decide +kernel
theorem d_PatternBook_declet_13 : decode b_PatternBook_declet 13 = .ok (.iload_n 1, 1) := by decide +kernel
theorem d_PatternBook_declet_14 : decode b_PatternBook_declet 14 = .ok (.invokestatic 100, 3) := by decide +kernel
theorem d_PatternBook_declet_17 : decode b_PatternBook_declet 17 = .ok (.ireturn, 1) := by decide +kernel
theorem d_PatternBook_formatAt_0 : decode b_PatternBook_formatAt 0 = .ok (.iload_n 1, 1) := by decide +kernel
theorem d_PatternBook_formatAt_1 : decode b_PatternBook_formatAt 1 = .ok (.ifCond .lt 12, 3) := by decide +kernel
theorem d_PatternBook_formatAt_4 : decode b_PatternBook_formatAt 4 = .ok (.iload_n 1, 1) := by decide +kernel
theorem d_PatternBook_formatAt_5 : decode b_PatternBook_formatAt 5 = .ok (.aload_n 0, 1) := by decide +kernel
theorem d_PatternBook_formatAt_6 : decode b_PatternBook_formatAt 6 = .ok (.getfield 20, 3) := by decide +kernel
theorem d_PatternBook_formatAt_9 : decode b_PatternBook_formatAt 9 = .ok (.arraylength, 1) := by decide +kernel
theorem d_PatternBook_formatAt_10 : decode b_PatternBook_formatAt 10 = .ok (.if_icmp .lt 13, 3) := by decide +kernel
theorem d_PatternBook_formatAt_13 : decode b_PatternBook_formatAt 13 = .ok (.new 102, 3) := by decide +kernel
theorem d_PatternBook_formatAt_16 : decode b_PatternBook_formatAt 16 = .ok (.dup, 1) := by decide +kernel
theorem d_PatternBook_formatAt_17 : decode b_PatternBook_formatAt 17 = .ok (.ldc 104, 2) := by decide +kernel
theorem d_PatternBook_formatAt_19 : decode b_PatternBook_formatAt 19 = .ok (.invokespecial 106, 3) := by decide +kernel
theorem d_PatternBook_formatAt_22 : decode b_PatternBook_formatAt 22 = .ok (.athrow, 1) := by decide +kernel
theorem d_PatternBook_formatAt_23 : decode b_PatternBook_formatAt 23 = .ok (.aload_n 0, 1) := by decide +kernel
theorem d_PatternBook_formatAt_24 : decode b_PatternBook_formatAt 24 = .ok (.getfield 20, 3) := by decide +kernel
theorem d_PatternBook_formatAt_27 : decode b_PatternBook_formatAt 27 = .ok (.iload_n 1, 1) := by decide +kernel
theorem d_PatternBook_formatAt_28 : decode b_PatternBook_formatAt 28 = .ok (.aaload, 1) := by decide +kernel
theorem d_PatternBook_formatAt_29 : decode b_PatternBook_formatAt 29 = .ok (.areturn, 1) := by decide +kernel
theorem d_PatternBook_unpack_0 : decode b_PatternBook_unpack 0 = .ok (.aload_n 0, 1) := by decide +kernel
theorem d_PatternBook_unpack_1 : decode b_PatternBook_unpack 1 = .ok (.iload_n 1, 1) := by decide +kernel
theorem d_PatternBook_unpack_2 : decode b_PatternBook_unpack 2 = .ok (.invokevirtual 49, 3) := by decide +kernel
theorem d_PatternBook_unpack_5 : decode b_PatternBook_unpack 5 = .ok (.astore 6, 2) := by decide +kernel
theorem d_PatternBook_unpack_7 : decode b_PatternBook_unpack 7 = .ok (.aload 6, 2) := by decide +kernel
theorem d_PatternBook_unpack_9 : decode b_PatternBook_unpack 9 = .ok (.lload_n 2, 1) := by decide +kernel
theorem d_PatternBook_unpack_10 : decode b_PatternBook_unpack 10 = .ok (.lload 4, 2) := by decide +kernel
theorem d_PatternBook_unpack_12 : decode b_PatternBook_unpack 12 = .ok (.aload_n 0, 1) := by decide +kernel
theorem d_PatternBook_unpack_13 : decode b_PatternBook_unpack 13 = .ok (.getfield 40, 3) := by decide +kernel
theorem d_PatternBook_unpack_16 : decode b_PatternBook_unpack 16 = .ok (.invokevirtual 53, 3) := by decide +kernel
theorem d_PatternBook_unpack_19 : decode b_PatternBook_unpack 19 = .ok (.aload 6, 2) := by decide +kernel
theorem d_PatternBook_unpack_21 : decode b_PatternBook_unpack 21 = .ok (.aload_n 0, 1) := by decide +kernel
theorem d_PatternBook_unpack_22 : decode b_PatternBook_unpack 22 = .ok (.getfield 40, 3) := by decide +kernel
theorem d_PatternBook_unpack_25 : decode b_PatternBook_unpack 25 = .ok (.aload_n 0, 1) := by decide +kernel
theorem d_PatternBook_unpack_26 : decode b_PatternBook_unpack 26 = .ok (.getfield 29, 3) := by decide +kernel
theorem d_PatternBook_unpack_29 : decode b_PatternBook_unpack 29 = .ok (.invokevirtual 57, 3) := by decide +kernel
theorem d_PatternBook_unpack_32 : decode b_PatternBook_unpack 32 = .ok (.aload_n 0, 1) := by decide +kernel
theorem d_PatternBook_unpack_33 : decode b_PatternBook_unpack 33 = .ok (.getfield 29, 3) := by decide +kernel
theorem d_PatternBook_unpack_36 : decode b_PatternBook_unpack 36 = .ok (.getfield 61, 3) := by decide +kernel
theorem d_PatternBook_unpack_39 : decode b_PatternBook_unpack 39 = .ok (.ireturn, 1) := by decide +kernel
theorem d_PatternBook_pack_0 : decode b_PatternBook_pack 0 = .ok (.aload_n 0, 1) := by decide +kernel
theorem d_PatternBook_pack_1 : decode b_PatternBook_pack 1 = .ok (.iload_n 1, 1) := by decide +kernel
theorem d_PatternBook_pack_2 : decode b_PatternBook_pack 2 = .ok (.invokevirtual 49, 3) := by decide +kernel
theorem d_PatternBook_pack_5 : decode b_PatternBook_pack 5 = .ok (.aload_n 0, 1) := by decide +kernel
theorem d_PatternBook_pack_6 : decode b_PatternBook_pack 6 = .ok (.getfield 29, 3) := by decide +kernel
theorem d_PatternBook_pack_9 : decode b_PatternBook_pack 9 = .ok (.aload_n 0, 1) := by decide +kernel
theorem d_PatternBook_pack_10 : decode b_PatternBook_pack 10 = .ok (.getfield 36, 3) := by decide +kernel
theorem d_PatternBook_pack_13 : decode b_PatternBook_pack 13 = .ok (.invokevirtual 65, 3) := by decide +kernel
theorem d_PatternBook_pack_16 : decode b_PatternBook_pack 16 = .ok (.ireturn, 1) := by decide +kernel
theorem d_PatternBook_canonical_0 : decode b_PatternBook_canonical 0 = .ok (.aload_n 0, 1) := by decide +kernel
theorem d_PatternBook_canonical_1 : decode b_PatternBook_canonical 1 = .ok (.iload_n 1, 1) := by decide +kernel
theorem d_PatternBook_canonical_2 : decode b_PatternBook_canonical 2 = .ok (.invokevirtual 49, 3) := by decide +kernel
theorem d_PatternBook_canonical_5 : decode b_PatternBook_canonical 5 = .ok (.astore 6, 2) := by decide +kernel
theorem d_PatternBook_canonical_7 : decode b_PatternBook_canonical 7 = .ok (.aload 6, 2) := by decide +kernel
theorem d_PatternBook_canonical_9 : decode b_PatternBook_canonical 9 = .ok (.lload_n 2, 1) := by decide +kernel
theorem d_PatternBook_canonical_10 : decode b_PatternBook_canonical 10 = .ok (.lload 4, 2) := by decide +kernel
theorem d_PatternBook_canonical_12 : decode b_PatternBook_canonical 12 = .ok (.aload_n 0, 1) := by decide +kernel
theorem d_PatternBook_canonical_13 : decode b_PatternBook_canonical 13 = .ok (.getfield 40, 3) := by decide +kernel
theorem d_PatternBook_canonical_16 : decode b_PatternBook_canonical 16 = .ok (.invokevirtual 53, 3) := by decide +kernel
theorem d_PatternBook_canonical_19 : decode b_PatternBook_canonical 19 = .ok (.aload 6, 2) := by decide +kernel
theorem d_PatternBook_canonical_21 : decode b_PatternBook_canonical 21 = .ok (.aload_n 0, 1) := by decide +kernel
theorem d_PatternBook_canonical_22 : decode b_PatternBook_canonical 22 = .ok (.getfield 40, 3) := by decide +kernel
theorem d_PatternBook_canonical_25 : decode b_PatternBook_canonical 25 = .ok (.aload_n 0, 1) := by decide +kernel
theorem d_PatternBook_canonical_26 : decode b_PatternBook_canonical 26 = .ok (.getfield 43, 3) := by decide +kernel
theorem d_PatternBook_canonical_29 : decode b_PatternBook_canonical 29 = .ok (.invokevirtual 57, 3) := by decide +kernel
theorem d_PatternBook_canonical_32 : decode b_PatternBook_canonical 32 = .ok (.aload 6, 2) := by decide +kernel
theorem d_PatternBook_canonical_34 : decode b_PatternBook_canonical 34 = .ok (.aload_n 0, 1) := by decide +kernel
theorem d_PatternBook_canonical_35 : decode b_PatternBook_canonical 35 = .ok (.getfield 43, 3) := by decide +kernel
theorem d_PatternBook_canonical_38 : decode b_PatternBook_canonical 38 = .ok (.aload_n 0, 1) := by decide +kernel
theorem d_PatternBook_canonical_39 : decode b_PatternBook_canonical 39 = .ok (.getfield 46, 3) := by decide +kernel
theorem d_PatternBook_canonical_42 : decode b_PatternBook_canonical 42 = .ok (.invokevirtual 65, 3) := by decide +kernel
theorem d_PatternBook_canonical_45 : decode b_PatternBook_canonical 45 = .ok (.ifCond .eq 21, 3) := by decide +kernel
theorem d_PatternBook_canonical_48 : decode b_PatternBook_canonical 48 = .ok (.aload_n 0, 1) := by decide +kernel
theorem d_PatternBook_canonical_49 : decode b_PatternBook_canonical 49 = .ok (.getfield 46, 3) := by decide +kernel
theorem d_PatternBook_canonical_52 : decode b_PatternBook_canonical 52 = .ok (.aload_n 0, 1) := by decide +kernel
theorem d_PatternBook_canonical_53 : decode b_PatternBook_canonical 53 = .ok (.getfield 40, 3) := by decide +kernel
theorem d_PatternBook_canonical_56 : decode b_PatternBook_canonical 56 = .ok (.invokevirtual 69, 3) := by decide +kernel
theorem d_PatternBook_canonical_59 : decode b_PatternBook_canonical 59 = .ok (.ifCond .eq 7, 3) := by decide +kernel
theorem d_PatternBook_canonical_62 : decode b_PatternBook_canonical 62 = .ok (.iconst 1, 1) := by decide +kernel
theorem d_PatternBook_canonical_63 : decode b_PatternBook_canonical 63 = .ok (.goto 4, 3) := by decide +kernel
theorem d_PatternBook_canonical_66 : decode b_PatternBook_canonical 66 = .ok (.iconst 0, 1) := by decide +kernel
theorem d_PatternBook_canonical_67 : decode b_PatternBook_canonical 67 = .ok (.ireturn, 1) := by decide +kernel
